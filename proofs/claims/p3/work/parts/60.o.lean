set_option maxRecDepth 4000 in
set_option maxHeartbeats 4000000 in
/-- M.message -/
theorem s_202 (a1 : Int32) (a2 : Int32) (H : mzH) (hI : gI SM H) (hJ : JN H) : gCall 202 [.ref 0, .int a1, .int a2] H (gRi (fun v H' => gI SM H' ∧ JN H' ∧ fZ H' 0 2 = fZ H 0 2)) := by
  obtain ⟨k0_2, ek0_2⟩ : ∃ z, z = fZ H 0 2 := ⟨_, rfl⟩
  have ik0_2 : k0_2.toInt = (fZ H 0 2).toInt := by rw [← ek0_2]
  have bk0_2 : 0 ≤ k0_2.toInt ∧ k0_2.toInt ≤ 900 := by rw [ek0_2]; exact fZ_of hI sm_0 rfl
  refine gG_call [(0, .ref 0), (1, .int a1), (2, .int a2)] ⟨rfl, rfl, rfl, trivial⟩ ?_
  show gG 3 zB_202 (mzBlk zB_202 0) [(0, .ref 0), (1, .int a1), (2, .int a2)] [] H 0 0 _
  refine g_aload_n rfl ?_
  refine g_iconst (by decide) (fun v217 kv217 => ?_)
  refine g_pfi hI sm_0 rfl (gz_any _) (fun H218 eH218 hIH218 => ?_)
  have hJH218 : JN H218 := JN_sF eH218 hJ
  have e219 : k0_2 = fZ H218 0 2 := by rw [eH218, fZ_sF_ne (by decide)]; exact ek0_2
  refine g_iload_n rfl ?_
  refine g_if_lt (fun c220 => ?_) (fun c220 => ?_)
  · refine g_aload_n rfl ?_
    refine g_iconst (by decide) (fun v221 kv221 => ?_)
    refine g_pfi hIH218 sm_0 rfl (gz_any _) (fun H222 eH222 hIH222 => ?_)
    have hJH222 : JN H222 := JN_sF eH222 hJH218
    have e223 : k0_2 = fZ H222 0 2 := by rw [eH222, fZ_sF_ne (by decide)]; exact e219
    refine g_iconst (by decide) (fun v224 kv224 => ?_)
    exact g_iret ⟨_, rfl, hIH222, hJH222, (e223.symm.trans ek0_2)⟩
  · refine g_iload_n rfl ?_
    refine g_aload_n rfl ?_
    refine g_invvi hIH218 sm_0 rfl rfl rfl rfl (s_180 H218 hIH218 hJH218) (fun v227 H225 r226 => ?_)
    obtain ⟨rfl, bv227, p228⟩ := r226
    refine g_if2_lt (fun c229 => ?_) (fun c229 => ?_)
    · refine g_aload_n rfl ?_
      refine g_invvv hIH218 sm_0 rfl rfl rfl rfl (s_199 H218 hIH218 hJH218) (fun H230 r231 => ?_)
      obtain ⟨hIH230, hJH230, w232, m233, p234⟩ := r231
      have e235 : k0_2 = fZ H230 0 2 := e219.trans w232.symm
      refine g_iload_n rfl ?_
      refine g_sw (by decide) (fun c236 => ?_) ⟨fun c236 => ?_, fun c236 => ?_, fun c236 => ?_, fun c236 => ?_, fun c236 => ?_, fun c236 => ?_, fun c236 => ?_, trivial⟩
      · refine g_aload_n rfl ?_
        refine g_iconst (by decide) (fun v237 kv237 => ?_)
        refine g_pfi hIH230 sm_0 rfl (gz_any _) (fun H238 eH238 hIH238 => ?_)
        have hJH238 : JM H238 := JM_sF eH238 hJH230
        have e239 : k0_2 = fZ H238 0 2 := by rw [eH238, fZ_sF_ne (by decide)]; exact e235
        refine g_iconst (by decide) (fun v240 kv240 => ?_)
        exact g_iret ⟨_, rfl, hIH238, (JM_n hJH238), (e239.symm.trans ek0_2)⟩
      · refine g_aload_n rfl ?_
        refine g_iload_n rfl ?_
        refine g_iload_n rfl ?_
        refine g_invvi hIH230 sm_0 rfl rfl rfl rfl (s_181 a1 (by omega) a2 (by omega) H230 hIH230 (JM_n hJH230)) (fun v243 H241 r242 => ?_)
        obtain ⟨rfl, p244⟩ := r242
        exact g_iret ⟨_, rfl, hIH230, (JM_n hJH230), (e235.symm.trans ek0_2)⟩
      · refine g_aload_n rfl ?_
        refine g_iload_n rfl ?_
        refine g_iload_n rfl ?_
        refine g_invvi hIH230 sm_0 rfl rfl rfl rfl (s_181 a1 (by omega) a2 (by omega) H230 hIH230 (JM_n hJH230)) (fun v247 H245 r246 => ?_)
        obtain ⟨rfl, p248⟩ := r246
        exact g_iret ⟨_, rfl, hIH230, (JM_n hJH230), (e235.symm.trans ek0_2)⟩
      · refine g_aload_n rfl ?_
        refine g_iload_n rfl ?_
        refine g_iload_n rfl ?_
        refine g_invvi hIH230 sm_0 rfl rfl rfl rfl (s_181 a1 (by omega) a2 (by omega) H230 hIH230 (JM_n hJH230)) (fun v251 H249 r250 => ?_)
        obtain ⟨rfl, p252⟩ := r250
        exact g_iret ⟨_, rfl, hIH230, (JM_n hJH230), (e235.symm.trans ek0_2)⟩
      · refine g_aload_n rfl ?_
        refine g_iload_n rfl ?_
        refine g_iload_n rfl ?_
        refine g_invvi hIH230 sm_0 rfl rfl rfl rfl (s_181 a1 (by omega) a2 (by omega) H230 hIH230 (JM_n hJH230)) (fun v255 H253 r254 => ?_)
        obtain ⟨rfl, p256⟩ := r254
        exact g_iret ⟨_, rfl, hIH230, (JM_n hJH230), (e235.symm.trans ek0_2)⟩
      · refine g_aload_n rfl ?_
        refine g_gfr hIH230 sm_0 rfl ?_
        refine g_iload_n rfl ?_
        refine g_iaload hIH230 sm_20 rfl (by omega) (fun v257 ev257 lv257 uv257 => ?_)
        exact g_iret ⟨_, rfl, hIH230, (JM_n hJH230), (e235.symm.trans ek0_2)⟩
      · refine g_aload_n rfl ?_
        refine g_iload_n rfl ?_
        refine g_invvi hIH230 sm_0 rfl rfl rfl rfl (s_203 a1 (by omega) H230 hIH230 (JM_n hJH230) (by obtain ⟨p, hp, e⟩ := p234 a1.toInt.toNat (by rw [m233 2]; omega); exact ⟨p, hp, by omega⟩)) (fun v260 H258 r259 => ?_)
        obtain rfl := r259
        exact g_iret ⟨_, rfl, hIH230, (JM_n hJH230), (e235.symm.trans ek0_2)⟩
      · refine g_aload_n rfl ?_
        refine g_iload_n rfl ?_
        refine g_invvi hIH230 sm_0 rfl rfl rfl rfl (s_204 a1 (by omega) H230 hIH230 (JM_n hJH230)) (fun v263 H261 r262 => ?_)
        obtain ⟨rfl, bv263⟩ := r262
        refine g_if_eq (fun c264 => ?_) (fun c264 => ?_)
        · refine g_iconst (by decide) (fun v265 kv265 => ?_)
          refine g_nop ?_
          exact g_iret ⟨_, rfl, hIH230, (JM_n hJH230), (e235.symm.trans ek0_2)⟩
        · refine g_iconst (by decide) (fun v266 kv266 => ?_)
          refine g_goto ?_
          exact g_iret ⟨_, rfl, hIH230, (JM_n hJH230), (e235.symm.trans ek0_2)⟩
    · refine g_nop ?_
      refine g_aload_n rfl ?_
      refine g_iconst (by decide) (fun v267 kv267 => ?_)
      refine g_pfi hIH218 sm_0 rfl (gz_any _) (fun H268 eH268 hIH268 => ?_)
      have hJH268 : JN H268 := JN_sF eH268 hJH218
      have e269 : k0_2 = fZ H268 0 2 := by rw [eH268, fZ_sF_ne (by decide)]; exact e219
      refine g_iconst (by decide) (fun v270 kv270 => ?_)
      exact g_iret ⟨_, rfl, hIH268, hJH268, (e269.symm.trans ek0_2)⟩
set_option maxRecDepth 4000 in
set_option maxHeartbeats 4000000 in
/-- M.isThing -/
theorem s_205 (a0 : Int32) (H : mzH) (hI : gI SM H) (hJ : JN H) : gCall 205 [.int a0] H (gRi (fun v H' => H = H' ∧ (0 ≤ v.toInt ∧ v.toInt ≤ 1) ∧ (v.toInt = 0 ∨ (0 ≤ a0.toInt ∧ a0.toInt ≤ 39)))) := by
  refine gG_call [(0, .int a0)] ⟨rfl, trivial⟩ ?_
  show gG 1 zB_205 (mzBlk zB_205 0) [(0, .int a0)] [] H 0 0 _
  refine g_iload_n rfl ?_
  refine g_if_lt (fun c25 => ?_) (fun c25 => ?_)
  · refine g_iconst (by decide) (fun v26 kv26 => ?_)
    refine g_nop ?_
    exact g_zret (by omega) ⟨_, rfl, rfl, (by omega), (by omega)⟩
  · refine g_iload_n rfl ?_
    refine g_bipush (by decide) (fun v27 kv27 => ?_)
    refine g_if2_ge (fun c28 => ?_) (fun c28 => ?_)
    · refine g_iconst (by decide) (fun v29 kv29 => ?_)
      refine g_nop ?_
      exact g_zret (by omega) ⟨_, rfl, rfl, (by omega), (by omega)⟩
    · refine g_iconst (by decide) (fun v30 kv30 => ?_)
      refine g_goto ?_
      exact g_zret (by omega) ⟨_, rfl, rfl, (by omega), (by omega)⟩
set_option maxRecDepth 4000 in
set_option maxHeartbeats 4000000 in
/-- M.isHour -/
theorem s_206 (a0 : Int32) (H : mzH) (hI : gI SM H) (hJ : JN H) : gCall 206 [.int a0] H (gRi (fun v H' => H = H' ∧ (0 ≤ v.toInt ∧ v.toInt ≤ 1))) := by
  refine gG_call [(0, .int a0)] ⟨rfl, trivial⟩ ?_
  show gG 1 zB_206 (mzBlk zB_206 0) [(0, .int a0)] [] H 0 0 _
  refine g_iload_n rfl ?_
  refine g_if_lt (fun c25 => ?_) (fun c25 => ?_)
  · refine g_iconst (by decide) (fun v26 kv26 => ?_)
    refine g_nop ?_
    exact g_zret (by omega) ⟨_, rfl, rfl, (by omega)⟩
  · refine g_iload_n rfl ?_
    refine g_sipush (by decide) (fun v27 kv27 => ?_)
    refine g_if2_gt (fun c28 => ?_) (fun c28 => ?_)
    · refine g_iconst (by decide) (fun v29 kv29 => ?_)
      refine g_nop ?_
      exact g_zret (by omega) ⟨_, rfl, rfl, (by omega)⟩
    · refine g_iconst (by decide) (fun v30 kv30 => ?_)
      refine g_goto ?_
      exact g_zret (by omega) ⟨_, rfl, rfl, (by omega)⟩
set_option maxRecDepth 4000 in
set_option maxHeartbeats 4000000 in
/-- M.allIn -/
theorem s_207 (a1 : Int32) (H : mzH) (hI : gI SM H) (hJ : JM H) : gCall 207 [.ref 0, .int a1] H (gRi (fun v H' => H = H')) := by
  refine gG_call [(0, .ref 0), (1, .int a1)] ⟨rfl, rfl, trivial⟩ ?_
  show gG 4 zB_207 (mzBlk zB_207 0) [(0, .ref 0), (1, .int a1)] [] H 0 0 _
  refine g_iconst (by decide) (fun v459 kv459 => ?_)
  refine g_istore_n (l' := [(0, .ref 0), (1, .int a1), (2, .int v459)]) rfl rfl ?_
  refine g_iconst (by decide) (fun v460 kv460 => ?_)
  refine g_istore_n (l' := [(0, .ref 0), (1, .int a1), (2, .int v459), (3, .int v460)]) rfl rfl ?_
  refine g_nop ?_
  have L463 : ∀ (N : Nat) (v461 : Int32) (v462 : Int32), (0 ≤ v462.toInt ∧ v462.toInt ≤ 40) → (40 - v462.toInt).toNat < N → gG 4 zB_207 (mzBlk zB_207 1) [(0, .ref 0), (1, .int a1), (2, .int v461), (3, .int v462)] [] H 0 0 (gRi (fun v H' => H = H')) := by
    intro N
    induction N with
    | zero => intro v461 v462 bv462 hmL463; exact absurd hmL463 (Nat.not_lt_zero _)
    | succ N ihL463 =>
      intro v461 v462 bv462 hmL463
      refine g_iload_n rfl ?_
      refine g_bipush (by decide) (fun v464 kv464 => ?_)
      refine g_if2_ge (fun c465 => ?_) (fun c465 => ?_)
      · refine g_iload_n rfl ?_
        exact g_iret ⟨_, rfl, rfl⟩
      · refine g_iload_n rfl ?_
        refine g_aload_n rfl ?_
        refine g_iload_n rfl ?_
        refine g_iload_n rfl ?_
        refine g_invvi hI sm_0 rfl rfl rfl rfl (s_186 v462 (by omega) a1 H hI hJ) (fun v468 H466 r467 => ?_)
        obtain ⟨rfl, bv468⟩ := r467
        refine g_if_eq (fun c469 => ?_) (fun c469 => ?_)
        · refine g_iconst (by decide) (fun v470 kv470 => ?_)
          refine g_nop ?_
          refine g_iadd (by have := gz_any v461; omega) (fun v471 ev471 => ?_)
          refine g_istore_n (l' := [(0, .ref 0), (1, .int a1), (2, .int v471), (3, .int v462)]) rfl rfl ?_
          refine g_iinc (l' := (fun v472 => [(0, .ref 0), (1, .int a1), (2, .int v471), (3, .int v472)])) rfl rfl (by decide) (by omega) (fun _ => rfl) (fun v472 ev472 => ?_)
          refine g_goto ?_
          exact ihL463 v471 v472 (by omega) (by omega)
        · refine g_iconst (by decide) (fun v473 kv473 => ?_)
          refine g_goto ?_
          refine g_iadd' (fun v474 _ => ?_)
          refine g_istore_n (l' := [(0, .ref 0), (1, .int a1), (2, .int v474), (3, .int v462)]) rfl rfl ?_
          refine g_iinc (l' := (fun v475 => [(0, .ref 0), (1, .int a1), (2, .int v474), (3, .int v475)])) rfl rfl (by decide) (by omega) (fun _ => rfl) (fun v475 ev475 => ?_)
          refine g_goto ?_
          exact ihL463 v474 v475 (by omega) (by omega)
  exact L463 _ v459 v460 (by omega) (Nat.lt_succ_self _)
set_option maxRecDepth 4000 in
set_option maxHeartbeats 4000000 in
/-- M.thing -/
theorem s_208 (a1 : Int32) (a2 : Int32) (a3 : Int32) (H : mzH) (hI : gI SM H) (hJ : JN H) : gCall 208 [.ref 0, .int a1, .int a2, .int a3] H (gRi (fun v H' => gI SM H' ∧ JN H' ∧ fZ H' 0 2 = fZ H 0 2)) := by
  obtain ⟨k0_2, ek0_2⟩ : ∃ z, z = fZ H 0 2 := ⟨_, rfl⟩
  have ik0_2 : k0_2.toInt = (fZ H 0 2).toInt := by rw [← ek0_2]
  have bk0_2 : 0 ≤ k0_2.toInt ∧ k0_2.toInt ≤ 900 := by rw [ek0_2]; exact fZ_of hI sm_0 rfl
  refine gG_call [(0, .ref 0), (1, .int a1), (2, .int a2), (3, .int a3)] ⟨rfl, rfl, rfl, rfl, trivial⟩ ?_
  show gG 4 zB_208 (mzBlk zB_208 0) [(0, .ref 0), (1, .int a1), (2, .int a2), (3, .int a3)] [] H 0 0 _
  refine g_aload_n rfl ?_
  refine g_iconst (by decide) (fun v229 kv229 => ?_)
  refine g_pfi hI sm_0 rfl (gz_any _) (fun H230 eH230 hIH230 => ?_)
  have hJH230 : JN H230 := JN_sF eH230 hJ
  have e231 : k0_2 = fZ H230 0 2 := by rw [eH230, fZ_sF_ne (by decide)]; exact ek0_2
  refine g_iload_n rfl ?_
  refine g_invti rfl rfl rfl (s_205 a1 H230 hIH230 hJH230) (fun v234 H232 r233 => ?_)
  obtain ⟨rfl, bv234, p235⟩ := r233
  refine g_if_eq (fun c236 => ?_) (fun c236 => ?_)
  · refine g_iconst (by decide) (fun v237 kv237 => ?_)
    exact g_iret ⟨_, rfl, hIH230, hJH230, (e231.symm.trans ek0_2)⟩
  · refine g_iload_n rfl ?_
    refine g_invti rfl rfl rfl (s_206 a2 H230 hIH230 hJH230) (fun v240 H238 r239 => ?_)
    obtain ⟨rfl, bv240⟩ := r239
    refine g_if_eq (fun c241 => ?_) (fun c241 => ?_)
    · refine g_iconst (by decide) (fun v242 kv242 => ?_)
      exact g_iret ⟨_, rfl, hIH230, hJH230, (e231.symm.trans ek0_2)⟩
    · refine g_iload_n rfl ?_
      refine g_if_lt (fun c243 => ?_) (fun c243 => ?_)
      · refine g_iconst (by decide) (fun v244 kv244 => ?_)
        exact g_iret ⟨_, rfl, hIH230, hJH230, (e231.symm.trans ek0_2)⟩
      · refine g_iload_n rfl ?_
        refine g_bipush (by decide) (fun v245 kv245 => ?_)
        refine g_if2_le (fun c246 => ?_) (fun c246 => ?_)
        · refine g_aload_n rfl ?_
          refine g_iload_n rfl ?_
          refine g_invvv hIH230 sm_0 rfl rfl rfl rfl (s_200 a2 H230 hIH230 hJH230) (fun H247 r248 => ?_)
          obtain ⟨hIH247, hJH247, w249⟩ := r248
          have e250 : k0_2 = fZ H247 0 2 := e231.trans w249.symm
          refine g_aload_n rfl ?_
          refine g_gfr hIH247 sm_0 rfl ?_
          refine g_iload_n rfl ?_
          refine g_baload hIH247 sm_7 rfl (by omega) (fun v251 ev251 lv251 uv251 => ?_)
          refine g_if_ne (fun c252 => ?_) (fun c252 => ?_)
          · refine g_aload_n rfl ?_
            refine g_gfr hIH247 sm_0 rfl ?_
            refine g_iload_n rfl ?_
            refine g_baload hIH247 sm_16 rfl (by omega) (fun v253 ev253 lv253 uv253 => ?_)
            refine g_if_eq (fun c254 => ?_) (fun c254 => ?_)
            · refine g_iload_n rfl ?_
              refine g_sw (by decide) (fun c255 => ?_) ⟨fun c255 => ?_, fun c255 => ?_, fun c255 => ?_, fun c255 => ?_, fun c255 => ?_, fun c255 => ?_, fun c255 => ?_, fun c255 => ?_, fun c255 => ?_, trivial⟩
              · refine g_aload_n rfl ?_
                refine g_iload_n rfl ?_
                refine g_invvi hIH247 sm_0 rfl rfl rfl rfl (s_207 a1 H247 hIH247 hJH247) (fun v258 H256 r257 => ?_)
                obtain rfl := r257
                exact g_iret ⟨_, rfl, hIH247, (JM_n hJH247), (e250.symm.trans ek0_2)⟩
              · refine g_aload_n rfl ?_
                refine g_gfr hIH247 sm_0 rfl ?_
                refine g_iload_n rfl ?_
                refine g_iaload hIH247 sm_8 rfl (by omega) (fun v259 ev259 lv259 uv259 => ?_)
                exact g_iret ⟨_, rfl, hIH247, (JM_n hJH247), (e250.symm.trans ek0_2)⟩
              · refine g_aload_n rfl ?_
                refine g_gfr hIH247 sm_0 rfl ?_
                refine g_iload_n rfl ?_
                refine g_iaload hIH247 sm_9 rfl (by omega) (fun v260 ev260 lv260 uv260 => ?_)
                have qv260 := JM_in hJH247 (by omega) ev260
                exact g_iret ⟨_, rfl, hIH247, (JM_n hJH247), (e250.symm.trans ek0_2)⟩
              · refine g_aload_n rfl ?_
                refine g_iload_n rfl ?_
                refine g_invvi hIH247 sm_0 rfl rfl rfl rfl (s_185 a1 (by omega) H247 hIH247 hJH247) (fun v263 H261 r262 => ?_)
                obtain ⟨rfl, bv263⟩ := r262
                exact g_iret ⟨_, rfl, hIH247, (JM_n hJH247), (e250.symm.trans ek0_2)⟩
              · refine g_aload_n rfl ?_
                refine g_iload_n rfl ?_
                refine g_invvi hIH247 sm_0 rfl rfl rfl rfl (s_201 a1 (by omega) H247 hIH247 hJH247) (fun v266 H264 r265 => ?_)
                obtain ⟨rfl, bv266⟩ := r265
                exact g_iret ⟨_, rfl, hIH247, (JM_n hJH247), (e250.symm.trans ek0_2)⟩
              · refine g_aload_n rfl ?_
                refine g_gfr hIH247 sm_0 rfl ?_
                refine g_iload_n rfl ?_
                refine g_baload hIH247 sm_13 rfl (by omega) (fun v267 ev267 lv267 uv267 => ?_)
                refine g_if_eq (fun c268 => ?_) (fun c268 => ?_)
                · refine g_iconst (by decide) (fun v269 kv269 => ?_)
                  refine g_nop ?_
                  exact g_iret ⟨_, rfl, hIH247, (JM_n hJH247), (e250.symm.trans ek0_2)⟩
                · refine g_iconst (by decide) (fun v270 kv270 => ?_)
                  refine g_goto ?_
                  exact g_iret ⟨_, rfl, hIH247, (JM_n hJH247), (e250.symm.trans ek0_2)⟩
              · refine g_aload_n rfl ?_
                refine g_gfr hIH247 sm_0 rfl ?_
                refine g_iload_n rfl ?_
                refine g_baload hIH247 sm_14 rfl (by omega) (fun v271 ev271 lv271 uv271 => ?_)
                refine g_if_eq (fun c272 => ?_) (fun c272 => ?_)
                · refine g_iconst (by decide) (fun v273 kv273 => ?_)
                  refine g_nop ?_
                  exact g_iret ⟨_, rfl, hIH247, (JM_n hJH247), (e250.symm.trans ek0_2)⟩
                · refine g_iconst (by decide) (fun v274 kv274 => ?_)
                  refine g_goto ?_
                  exact g_iret ⟨_, rfl, hIH247, (JM_n hJH247), (e250.symm.trans ek0_2)⟩
              · refine g_aload_n rfl ?_
                refine g_gfr hIH247 sm_0 rfl ?_
                refine g_iload_n rfl ?_
                refine g_iaload hIH247 sm_12 rfl (by omega) (fun v275 ev275 lv275 uv275 => ?_)
                exact g_iret ⟨_, rfl, hIH247, (JM_n hJH247), (e250.symm.trans ek0_2)⟩
              · refine g_aload_n rfl ?_
                refine g_gfr hIH247 sm_0 rfl ?_
                refine g_aload_n rfl ?_
                refine g_iload_n rfl ?_
                refine g_invvi hIH247 sm_0 rfl rfl rfl rfl (s_185 a1 (by omega) H247 hIH247 hJH247) (fun v278 H276 r277 => ?_)
                obtain ⟨rfl, bv278⟩ := r277
                refine g_iaload hIH247 sm_11 rfl (by omega) (fun v279 ev279 lv279 uv279 => ?_)
                exact g_iret ⟨_, rfl, hIH247, (JM_n hJH247), (e250.symm.trans ek0_2)⟩
              · refine g_aload_n rfl ?_
                refine g_iload_n rfl ?_
                refine g_invvi hIH247 sm_0 rfl rfl rfl rfl (s_188 a1 H247 hIH247 (JM_n hJH247)) (fun v282 H280 r281 => ?_)
                obtain rfl := r281
                exact g_iret ⟨_, rfl, hIH247, (JM_n hJH247), (e250.symm.trans ek0_2)⟩
            · refine g_bipush (by decide) (fun v283 kv283 => ?_)
              exact g_iret ⟨_, rfl, hIH247, (JM_n hJH247), (e250.symm.trans ek0_2)⟩
          · refine g_bipush (by decide) (fun v284 kv284 => ?_)
            exact g_iret ⟨_, rfl, hIH247, (JM_n hJH247), (e250.symm.trans ek0_2)⟩
        · refine g_nop ?_
          refine g_iconst (by decide) (fun v285 kv285 => ?_)
          exact g_iret ⟨_, rfl, hIH230, hJH230, (e231.symm.trans ek0_2)⟩
set_option maxRecDepth 4000 in
set_option maxHeartbeats 4000000 in
/-- M.inside -/
theorem s_209 (a1 : Int32) (a2 : Int32) (a3 : Int32) (H : mzH) (hI : gI SM H) (hJ : JN H) : gCall 209 [.ref 0, .int a1, .int a2, .int a3] H (gRi (fun v H' => gI SM H' ∧ JN H' ∧ fZ H' 0 2 = fZ H 0 2)) := by
  obtain ⟨k0_2, ek0_2⟩ : ∃ z, z = fZ H 0 2 := ⟨_, rfl⟩
  have ik0_2 : k0_2.toInt = (fZ H 0 2).toInt := by rw [← ek0_2]
  have bk0_2 : 0 ≤ k0_2.toInt ∧ k0_2.toInt ≤ 900 := by rw [ek0_2]; exact fZ_of hI sm_0 rfl
  refine gG_call [(0, .ref 0), (1, .int a1), (2, .int a2), (3, .int a3)] ⟨rfl, rfl, rfl, rfl, trivial⟩ ?_
  show gG 6 zB_209 (mzBlk zB_209 0) [(0, .ref 0), (1, .int a1), (2, .int a2), (3, .int a3)] [] H 0 0 _
  refine g_aload_n rfl ?_
  refine g_iconst (by decide) (fun v269 kv269 => ?_)
  refine g_pfi hI sm_0 rfl (gz_any _) (fun H270 eH270 hIH270 => ?_)
  have hJH270 : JN H270 := JN_sF eH270 hJ
  have e271 : k0_2 = fZ H270 0 2 := by rw [eH270, fZ_sF_ne (by decide)]; exact ek0_2
  refine g_iload_n rfl ?_
  refine g_invti rfl rfl rfl (s_205 a1 H270 hIH270 hJH270) (fun v274 H272 r273 => ?_)
  obtain ⟨rfl, bv274, p275⟩ := r273
  refine g_if_eq (fun c276 => ?_) (fun c276 => ?_)
  · refine g_iconst (by decide) (fun v277 kv277 => ?_)
    exact g_iret ⟨_, rfl, hIH270, hJH270, (e271.symm.trans ek0_2)⟩
  · refine g_iload_n rfl ?_
    refine g_invti rfl rfl rfl (s_206 a2 H270 hIH270 hJH270) (fun v280 H278 r279 => ?_)
    obtain ⟨rfl, bv280⟩ := r279
    refine g_if_eq (fun c281 => ?_) (fun c281 => ?_)
    · refine g_iconst (by decide) (fun v282 kv282 => ?_)
      exact g_iret ⟨_, rfl, hIH270, hJH270, (e271.symm.trans ek0_2)⟩
    · refine g_iload_n rfl ?_
      refine g_if_ge (fun c283 => ?_) (fun c283 => ?_)
      · refine g_aload_n rfl ?_
        refine g_iload_n rfl ?_
        refine g_invvv hIH270 sm_0 rfl rfl rfl rfl (s_200 a2 H270 hIH270 hJH270) (fun H284 r285 => ?_)
        obtain ⟨hIH284, hJH284, w286⟩ := r285
        have e287 : k0_2 = fZ H284 0 2 := e271.trans w286.symm
        refine g_iload_n rfl ?_
        refine g_istore (l' := [(0, .ref 0), (1, .int a1), (2, .int a2), (3, .int a3), (4, .int a3)]) rfl rfl ?_
        refine g_iconst (by decide) (fun v288 kv288 => ?_)
        refine g_istore (l' := [(0, .ref 0), (1, .int a1), (2, .int a2), (3, .int a3), (4, .int a3), (5, .int v288)]) rfl rfl ?_
        refine g_nop ?_
        have L291 : ∀ (N : Nat) (v289 : Int32) (v290 : Int32), (0 ≤ v289.toInt ∧ v289.toInt ≤ 2147483647) → (0 ≤ v290.toInt ∧ v290.toInt ≤ 40) → (40 - v290.toInt).toNat < N → gG 6 zB_209 (mzBlk zB_209 3) [(0, .ref 0), (1, .int a1), (2, .int a2), (3, .int a3), (4, .int v289), (5, .int v290)] [] H284 0 0 (gRi (fun v H' => gI SM H' ∧ JN H' ∧ fZ H' 0 2 = fZ H 0 2)) := by
          intro N
          induction N with
          | zero => intro v289 v290 bv289 bv290 hmL291; exact absurd hmL291 (Nat.not_lt_zero _)
          | succ N ihL291 =>
            intro v289 v290 bv289 bv290 hmL291
            refine g_iload rfl ?_
            refine g_bipush (by decide) (fun v292 kv292 => ?_)
            refine g_if2_ge (fun c293 => ?_) (fun c293 => ?_)
            · refine g_bipush (by decide) (fun v294 kv294 => ?_)
              exact g_iret ⟨_, rfl, hIH284, (JM_n hJH284), (e287.symm.trans ek0_2)⟩
            · refine g_aload_n rfl ?_
              refine g_iload rfl ?_
              refine g_iload_n rfl ?_
              refine g_invvi hIH284 sm_0 rfl rfl rfl rfl (s_186 v290 (by omega) a1 H284 hIH284 hJH284) (fun v297 H295 r296 => ?_)
              obtain ⟨rfl, bv297⟩ := r296
              refine g_if_ne (fun c298 => ?_) (fun c298 => ?_)
              · refine g_iload rfl ?_
                refine g_if_ne (fun c299 => ?_) (fun c299 => ?_)
                · refine g_iinc (l' := (fun v300 => [(0, .ref 0), (1, .int a1), (2, .int a2), (3, .int a3), (4, .int v300), (5, .int v290)])) rfl rfl (by decide) (by have := gz_any v289; omega) (fun _ => rfl) (fun v300 ev300 => ?_)
                  refine g_nop ?_
                  refine g_iinc (l' := (fun v301 => [(0, .ref 0), (1, .int a1), (2, .int a2), (3, .int a3), (4, .int v300), (5, .int v301)])) rfl rfl (by decide) (by omega) (fun _ => rfl) (fun v301 ev301 => ?_)
                  refine g_goto ?_
                  exact ihL291 v300 v301 (by have := gz_any v300; omega) (by omega) (by omega)
                · refine g_iload rfl ?_
                  exact g_iret ⟨_, rfl, hIH284, (JM_n hJH284), (e287.symm.trans ek0_2)⟩
              · refine g_goto ?_
                refine g_iinc (l' := (fun v302 => [(0, .ref 0), (1, .int a1), (2, .int a2), (3, .int a3), (4, .int v289), (5, .int v302)])) rfl rfl (by decide) (by omega) (fun _ => rfl) (fun v302 ev302 => ?_)
                refine g_goto ?_
                exact ihL291 v289 v302 (by have := gz_any v289; omega) (by omega) (by omega)
        exact L291 _ a3 v288 (by have := gz_any a3; omega) (by omega) (Nat.lt_succ_self _)
      · refine g_nop ?_
        refine g_iconst (by decide) (fun v303 kv303 => ?_)
        exact g_iret ⟨_, rfl, hIH270, hJH270, (e271.symm.trans ek0_2)⟩
set_option maxRecDepth 4000 in
set_option maxHeartbeats 4000000 in
/-- M.there -/
theorem s_211 (a1 : Int32) (a2 : Int32) (a3 : Int32) (H : mzH) (hI : gI SM H) (hJ : JN H) : gCall 211 [.ref 0, .int a1, .int a2, .int a3] H (gRi (fun v H' => gI SM H' ∧ JN H' ∧ fZ H' 0 2 = fZ H 0 2)) := by
  obtain ⟨k0_2, ek0_2⟩ : ∃ z, z = fZ H 0 2 := ⟨_, rfl⟩
  have ik0_2 : k0_2.toInt = (fZ H 0 2).toInt := by rw [← ek0_2]
  have bk0_2 : 0 ≤ k0_2.toInt ∧ k0_2.toInt ≤ 900 := by rw [ek0_2]; exact fZ_of hI sm_0 rfl
  refine gG_call [(0, .ref 0), (1, .int a1), (2, .int a2), (3, .int a3)] ⟨rfl, rfl, rfl, rfl, trivial⟩ ?_
  show gG 6 zB_211 (mzBlk zB_211 0) [(0, .ref 0), (1, .int a1), (2, .int a2), (3, .int a3)] [] H 0 0 _
  refine g_aload_n rfl ?_
  refine g_iconst (by decide) (fun v381 kv381 => ?_)
  refine g_pfi hI sm_0 rfl (gz_any _) (fun H382 eH382 hIH382 => ?_)
  have hJH382 : JN H382 := JN_sF eH382 hJ
  have e383 : k0_2 = fZ H382 0 2 := by rw [eH382, fZ_sF_ne (by decide)]; exact ek0_2
  refine g_aload_n rfl ?_
  refine g_iload_n rfl ?_
  refine g_invvi hIH382 sm_0 rfl rfl rfl rfl (s_210 a1 H382 hIH382 hJH382) (fun v386 H384 r385 => ?_)
  obtain ⟨rfl, bv386, p387⟩ := r385
  refine g_if_ne (fun c388 => ?_) (fun c388 => ?_)
  · refine g_iload_n rfl ?_
    refine g_invti rfl rfl rfl (s_206 a2 H382 hIH382 hJH382) (fun v391 H389 r390 => ?_)
    obtain ⟨rfl, bv391⟩ := r390
    refine g_if_eq (fun c392 => ?_) (fun c392 => ?_)
    · refine g_iconst (by decide) (fun v393 kv393 => ?_)
      exact g_iret ⟨_, rfl, hIH382, hJH382, (e383.symm.trans ek0_2)⟩
    · refine g_iload_n rfl ?_
      refine g_if_ge (fun c394 => ?_) (fun c394 => ?_)
      · refine g_aload_n rfl ?_
        refine g_iload_n rfl ?_
        refine g_invvv hIH382 sm_0 rfl rfl rfl rfl (s_200 a2 H382 hIH382 hJH382) (fun H395 r396 => ?_)
        obtain ⟨hIH395, hJH395, w397⟩ := r396
        have e398 : k0_2 = fZ H395 0 2 := e383.trans w397.symm
        refine g_iload_n rfl ?_
        refine g_istore (l' := [(0, .ref 0), (1, .int a1), (2, .int a2), (3, .int a3), (4, .int a3)]) rfl rfl ?_
        refine g_iconst (by decide) (fun v399 kv399 => ?_)
        refine g_istore (l' := [(0, .ref 0), (1, .int a1), (2, .int a2), (3, .int a3), (4, .int a3), (5, .int v399)]) rfl rfl ?_
        refine g_nop ?_
        have L402 : ∀ (N : Nat) (v400 : Int32) (v401 : Int32), (0 ≤ v400.toInt ∧ v400.toInt ≤ 2147483647) → (0 ≤ v401.toInt ∧ v401.toInt ≤ 40) → (40 - v401.toInt).toNat < N → gG 6 zB_211 (mzBlk zB_211 4) [(0, .ref 0), (1, .int a1), (2, .int a2), (3, .int a3), (4, .int v400), (5, .int v401)] [] H395 0 0 (gRi (fun v H' => gI SM H' ∧ JN H' ∧ fZ H' 0 2 = fZ H 0 2)) := by
          intro N
          induction N with
          | zero => intro v400 v401 bv400 bv401 hmL402; exact absurd hmL402 (Nat.not_lt_zero _)
          | succ N ihL402 =>
            intro v400 v401 bv400 bv401 hmL402
            refine g_iload rfl ?_
            refine g_bipush (by decide) (fun v403 kv403 => ?_)
            refine g_if2_ge (fun c404 => ?_) (fun c404 => ?_)
            · refine g_bipush (by decide) (fun v405 kv405 => ?_)
              exact g_iret ⟨_, rfl, hIH395, (JM_n hJH395), (e398.symm.trans ek0_2)⟩
            · refine g_aload_n rfl ?_
              refine g_iload rfl ?_
              refine g_invvi hIH395 sm_0 rfl rfl rfl rfl (s_201 v401 (by omega) H395 hIH395 hJH395) (fun v408 H406 r407 => ?_)
              obtain ⟨rfl, bv408⟩ := r407
              refine g_iload_n rfl ?_
              refine g_if2_eq (fun c409 => ?_) (fun c409 => ?_)
              · refine g_iload rfl ?_
                refine g_if_ne (fun c410 => ?_) (fun c410 => ?_)
                · refine g_iinc (l' := (fun v411 => [(0, .ref 0), (1, .int a1), (2, .int a2), (3, .int a3), (4, .int v411), (5, .int v401)])) rfl rfl (by decide) (by have := gz_any v400; omega) (fun _ => rfl) (fun v411 ev411 => ?_)
                  refine g_nop ?_
                  refine g_iinc (l' := (fun v412 => [(0, .ref 0), (1, .int a1), (2, .int a2), (3, .int a3), (4, .int v411), (5, .int v412)])) rfl rfl (by decide) (by omega) (fun _ => rfl) (fun v412 ev412 => ?_)
                  refine g_goto ?_
                  exact ihL402 v411 v412 (by have := gz_any v411; omega) (by omega) (by omega)
                · refine g_iload rfl ?_
                  exact g_iret ⟨_, rfl, hIH395, (JM_n hJH395), (e398.symm.trans ek0_2)⟩
              · refine g_goto ?_
                refine g_iinc (l' := (fun v413 => [(0, .ref 0), (1, .int a1), (2, .int a2), (3, .int a3), (4, .int v400), (5, .int v413)])) rfl rfl (by decide) (by omega) (fun _ => rfl) (fun v413 ev413 => ?_)
                refine g_goto ?_
                exact ihL402 v400 v413 (by have := gz_any v400; omega) (by omega) (by omega)
        exact L402 _ a3 v399 (by have := gz_any a3; omega) (by omega) (Nat.lt_succ_self _)
      · refine g_nop ?_
        refine g_iconst (by decide) (fun v414 kv414 => ?_)
        exact g_iret ⟨_, rfl, hIH382, hJH382, (e383.symm.trans ek0_2)⟩
  · refine g_iload_n rfl ?_
    refine g_bipush (by decide) (fun v415 kv415 => ?_)
    refine g_if2_eq (fun c416 => ?_) (fun c416 => ?_)
    · refine g_iload_n rfl ?_
      refine g_invti rfl rfl rfl (s_206 a2 H382 hIH382 hJH382) (fun v419 H417 r418 => ?_)
      obtain ⟨rfl, bv419⟩ := r418
      refine g_if_eq (fun c420 => ?_) (fun c420 => ?_)
      · refine g_iconst (by decide) (fun v421 kv421 => ?_)
        exact g_iret ⟨_, rfl, hIH382, hJH382, (e383.symm.trans ek0_2)⟩
      · refine g_iload_n rfl ?_
        refine g_if_ge (fun c422 => ?_) (fun c422 => ?_)
        · refine g_aload_n rfl ?_
          refine g_iload_n rfl ?_
          refine g_invvv hIH382 sm_0 rfl rfl rfl rfl (s_200 a2 H382 hIH382 hJH382) (fun H423 r424 => ?_)
          obtain ⟨hIH423, hJH423, w425⟩ := r424
          have e426 : k0_2 = fZ H423 0 2 := e383.trans w425.symm
          refine g_iload_n rfl ?_
          refine g_istore (l' := [(0, .ref 0), (1, .int a1), (2, .int a2), (3, .int a3), (4, .int a3)]) rfl rfl ?_
          refine g_iconst (by decide) (fun v427 kv427 => ?_)
          refine g_istore (l' := [(0, .ref 0), (1, .int a1), (2, .int a2), (3, .int a3), (4, .int a3), (5, .int v427)]) rfl rfl ?_
          refine g_nop ?_
          have L430 : ∀ (N : Nat) (v428 : Int32) (v429 : Int32), (0 ≤ v428.toInt ∧ v428.toInt ≤ 2147483647) → (0 ≤ v429.toInt ∧ v429.toInt ≤ 40) → (40 - v429.toInt).toNat < N → gG 6 zB_211 (mzBlk zB_211 4) [(0, .ref 0), (1, .int a1), (2, .int a2), (3, .int a3), (4, .int v428), (5, .int v429)] [] H423 0 0 (gRi (fun v H' => gI SM H' ∧ JN H' ∧ fZ H' 0 2 = fZ H 0 2)) := by
            intro N
            induction N with
            | zero => intro v428 v429 bv428 bv429 hmL430; exact absurd hmL430 (Nat.not_lt_zero _)
            | succ N ihL430 =>
              intro v428 v429 bv428 bv429 hmL430
              refine g_iload rfl ?_
              refine g_bipush (by decide) (fun v431 kv431 => ?_)
              refine g_if2_ge (fun c432 => ?_) (fun c432 => ?_)
              · refine g_bipush (by decide) (fun v433 kv433 => ?_)
                exact g_iret ⟨_, rfl, hIH423, (JM_n hJH423), (e426.symm.trans ek0_2)⟩
              · refine g_aload_n rfl ?_
                refine g_iload rfl ?_
                refine g_invvi hIH423 sm_0 rfl rfl rfl rfl (s_201 v429 (by omega) H423 hIH423 hJH423) (fun v436 H434 r435 => ?_)
                obtain ⟨rfl, bv436⟩ := r435
                refine g_iload_n rfl ?_
                refine g_if2_eq (fun c437 => ?_) (fun c437 => ?_)
                · refine g_iload rfl ?_
                  refine g_if_ne (fun c438 => ?_) (fun c438 => ?_)
                  · refine g_iinc (l' := (fun v439 => [(0, .ref 0), (1, .int a1), (2, .int a2), (3, .int a3), (4, .int v439), (5, .int v429)])) rfl rfl (by decide) (by have := gz_any v428; omega) (fun _ => rfl) (fun v439 ev439 => ?_)
                    refine g_nop ?_
                    refine g_iinc (l' := (fun v440 => [(0, .ref 0), (1, .int a1), (2, .int a2), (3, .int a3), (4, .int v439), (5, .int v440)])) rfl rfl (by decide) (by omega) (fun _ => rfl) (fun v440 ev440 => ?_)
                    refine g_goto ?_
                    exact ihL430 v439 v440 (by have := gz_any v439; omega) (by omega) (by omega)
                  · refine g_iload rfl ?_
                    exact g_iret ⟨_, rfl, hIH423, (JM_n hJH423), (e426.symm.trans ek0_2)⟩
                · refine g_goto ?_
                  refine g_iinc (l' := (fun v441 => [(0, .ref 0), (1, .int a1), (2, .int a2), (3, .int a3), (4, .int v428), (5, .int v441)])) rfl rfl (by decide) (by omega) (fun _ => rfl) (fun v441 ev441 => ?_)
                  refine g_goto ?_
                  exact ihL430 v428 v441 (by have := gz_any v428; omega) (by omega) (by omega)
          exact L430 _ a3 v427 (by have := gz_any a3; omega) (by omega) (Nat.lt_succ_self _)
        · refine g_nop ?_
          refine g_iconst (by decide) (fun v442 kv442 => ?_)
          exact g_iret ⟨_, rfl, hIH382, hJH382, (e383.symm.trans ek0_2)⟩
    · refine g_iload_n rfl ?_
      refine g_bipush (by decide) (fun v443 kv443 => ?_)
      refine g_if2_ne (fun c444 => ?_) (fun c444 => ?_)
      · refine g_iconst (by decide) (fun v445 kv445 => ?_)
        exact g_iret ⟨_, rfl, hIH382, hJH382, (e383.symm.trans ek0_2)⟩
      · refine g_nop ?_
        refine g_iload_n rfl ?_
        refine g_invti rfl rfl rfl (s_206 a2 H382 hIH382 hJH382) (fun v448 H446 r447 => ?_)
        obtain ⟨rfl, bv448⟩ := r447
        refine g_if_eq (fun c449 => ?_) (fun c449 => ?_)
        · refine g_iconst (by decide) (fun v450 kv450 => ?_)
          exact g_iret ⟨_, rfl, hIH382, hJH382, (e383.symm.trans ek0_2)⟩
        · refine g_iload_n rfl ?_
          refine g_if_ge (fun c451 => ?_) (fun c451 => ?_)
          · refine g_aload_n rfl ?_
            refine g_iload_n rfl ?_
            refine g_invvv hIH382 sm_0 rfl rfl rfl rfl (s_200 a2 H382 hIH382 hJH382) (fun H452 r453 => ?_)
            obtain ⟨hIH452, hJH452, w454⟩ := r453
            have e455 : k0_2 = fZ H452 0 2 := e383.trans w454.symm
            refine g_iload_n rfl ?_
            refine g_istore (l' := [(0, .ref 0), (1, .int a1), (2, .int a2), (3, .int a3), (4, .int a3)]) rfl rfl ?_
            refine g_iconst (by decide) (fun v456 kv456 => ?_)
            refine g_istore (l' := [(0, .ref 0), (1, .int a1), (2, .int a2), (3, .int a3), (4, .int a3), (5, .int v456)]) rfl rfl ?_
            refine g_nop ?_
            have L459 : ∀ (N : Nat) (v457 : Int32) (v458 : Int32), (0 ≤ v457.toInt ∧ v457.toInt ≤ 2147483647) → (0 ≤ v458.toInt ∧ v458.toInt ≤ 40) → (40 - v458.toInt).toNat < N → gG 6 zB_211 (mzBlk zB_211 4) [(0, .ref 0), (1, .int a1), (2, .int a2), (3, .int a3), (4, .int v457), (5, .int v458)] [] H452 0 0 (gRi (fun v H' => gI SM H' ∧ JN H' ∧ fZ H' 0 2 = fZ H 0 2)) := by
              intro N
              induction N with
              | zero => intro v457 v458 bv457 bv458 hmL459; exact absurd hmL459 (Nat.not_lt_zero _)
              | succ N ihL459 =>
                intro v457 v458 bv457 bv458 hmL459
                refine g_iload rfl ?_
                refine g_bipush (by decide) (fun v460 kv460 => ?_)
                refine g_if2_ge (fun c461 => ?_) (fun c461 => ?_)
                · refine g_bipush (by decide) (fun v462 kv462 => ?_)
                  exact g_iret ⟨_, rfl, hIH452, (JM_n hJH452), (e455.symm.trans ek0_2)⟩
                · refine g_aload_n rfl ?_
                  refine g_iload rfl ?_
                  refine g_invvi hIH452 sm_0 rfl rfl rfl rfl (s_201 v458 (by omega) H452 hIH452 hJH452) (fun v465 H463 r464 => ?_)
                  obtain ⟨rfl, bv465⟩ := r464
                  refine g_iload_n rfl ?_
                  refine g_if2_eq (fun c466 => ?_) (fun c466 => ?_)
                  · refine g_iload rfl ?_
                    refine g_if_ne (fun c467 => ?_) (fun c467 => ?_)
                    · refine g_iinc (l' := (fun v468 => [(0, .ref 0), (1, .int a1), (2, .int a2), (3, .int a3), (4, .int v468), (5, .int v458)])) rfl rfl (by decide) (by have := gz_any v457; omega) (fun _ => rfl) (fun v468 ev468 => ?_)
                      refine g_nop ?_
                      refine g_iinc (l' := (fun v469 => [(0, .ref 0), (1, .int a1), (2, .int a2), (3, .int a3), (4, .int v468), (5, .int v469)])) rfl rfl (by decide) (by omega) (fun _ => rfl) (fun v469 ev469 => ?_)
                      refine g_goto ?_
                      exact ihL459 v468 v469 (by have := gz_any v468; omega) (by omega) (by omega)
                    · refine g_iload rfl ?_
                      exact g_iret ⟨_, rfl, hIH452, (JM_n hJH452), (e455.symm.trans ek0_2)⟩
                  · refine g_goto ?_
                    refine g_iinc (l' := (fun v470 => [(0, .ref 0), (1, .int a1), (2, .int a2), (3, .int a3), (4, .int v457), (5, .int v470)])) rfl rfl (by decide) (by omega) (fun _ => rfl) (fun v470 ev470 => ?_)
                    refine g_goto ?_
                    exact ihL459 v457 v470 (by have := gz_any v457; omega) (by omega) (by omega)
            exact L459 _ a3 v456 (by have := gz_any a3; omega) (by omega) (Nat.lt_succ_self _)
          · refine g_nop ?_
            refine g_iconst (by decide) (fun v471 kv471 => ?_)
            exact g_iret ⟨_, rfl, hIH382, hJH382, (e383.symm.trans ek0_2)⟩
set_option maxRecDepth 4000 in
set_option maxHeartbeats 4000000 in
/-- M.isSo -/
theorem s_212 (a1 : Int32) (ha1 : 0 ≤ a1.toInt ∧ a1.toInt ≤ 39) (a2 : Int32) (H : mzH) (hI : gI SM H) (hJ : JM H) : gCall 212 [.ref 0, .int a1, .int a2] H (gRi (fun v H' => H = H' ∧ (0 ≤ v.toInt ∧ v.toInt ≤ 1))) := by
  refine gG_call [(0, .ref 0), (1, .int a1), (2, .int a2)] ⟨rfl, rfl, rfl, trivial⟩ ?_
  show gG 3 zB_212 (mzBlk zB_212 0) [(0, .ref 0), (1, .int a1), (2, .int a2)] [] H 0 0 _
  refine g_iload_n rfl ?_
  refine g_sw (by decide) (fun c93 => ?_) ⟨fun c93 => ?_, fun c93 => ?_, fun c93 => ?_, fun c93 => ?_, fun c93 => ?_, trivial⟩
  · refine g_aload_n rfl ?_
    refine g_gfr hI sm_0 rfl ?_
    refine g_iload_n rfl ?_
    refine g_baload hI sm_13 rfl (by omega) (fun v94 ev94 lv94 uv94 => ?_)
    exact g_zret (by omega) ⟨_, rfl, rfl, (by omega)⟩
  · refine g_aload_n rfl ?_
    refine g_gfr hI sm_0 rfl ?_
    refine g_iload_n rfl ?_
    refine g_baload hI sm_7 rfl (by omega) (fun v95 ev95 lv95 uv95 => ?_)
    exact g_zret (by omega) ⟨_, rfl, rfl, (by omega)⟩
  · refine g_aload_n rfl ?_
    refine g_iload_n rfl ?_
    refine g_invvi hI sm_0 rfl rfl rfl rfl (s_201 a1 (by omega) H hI hJ) (fun v98 H96 r97 => ?_)
    obtain ⟨rfl, bv98⟩ := r97
    refine g_bipush (by decide) (fun v99 kv99 => ?_)
    refine g_if2_ne (fun c100 => ?_) (fun c100 => ?_)
    · refine g_iconst (by decide) (fun v101 kv101 => ?_)
      refine g_nop ?_
      exact g_zret (by omega) ⟨_, rfl, rfl, (by omega)⟩
    · refine g_iconst (by decide) (fun v102 kv102 => ?_)
      refine g_goto ?_
      exact g_zret (by omega) ⟨_, rfl, rfl, (by omega)⟩
  · refine g_aload_n rfl ?_
    refine g_gfr hI sm_0 rfl ?_
    refine g_iload_n rfl ?_
    refine g_baload hI sm_16 rfl (by omega) (fun v103 ev103 lv103 uv103 => ?_)
    exact g_zret (by omega) ⟨_, rfl, rfl, (by omega)⟩
  · refine g_aload_n rfl ?_
    refine g_gfr hI sm_0 rfl ?_
    refine g_iload_n rfl ?_
    refine g_baload hI sm_14 rfl (by omega) (fun v104 ev104 lv104 uv104 => ?_)
    exact g_zret (by omega) ⟨_, rfl, rfl, (by omega)⟩
  · refine g_aload_n rfl ?_
    refine g_gfr hI sm_0 rfl ?_
    refine g_iload_n rfl ?_
    refine g_baload hI sm_7 rfl (by omega) (fun v105 ev105 lv105 uv105 => ?_)
    refine g_if_eq (fun c106 => ?_) (fun c106 => ?_)
    · refine g_iconst (by decide) (fun v107 kv107 => ?_)
      refine g_nop ?_
      exact g_zret (by omega) ⟨_, rfl, rfl, (by omega)⟩
    · refine g_aload_n rfl ?_
      refine g_gfr hI sm_0 rfl ?_
      refine g_iload_n rfl ?_
      refine g_baload hI sm_16 rfl (by omega) (fun v108 ev108 lv108 uv108 => ?_)
      refine g_if_ne (fun c109 => ?_) (fun c109 => ?_)
      · refine g_iconst (by decide) (fun v110 kv110 => ?_)
        refine g_nop ?_
        exact g_zret (by omega) ⟨_, rfl, rfl, (by omega)⟩
      · refine g_aload_n rfl ?_
        refine g_gfr hI sm_0 rfl ?_
        refine g_iload_n rfl ?_
        refine g_iaload hI sm_9 rfl (by omega) (fun v111 ev111 lv111 uv111 => ?_)
        have qv111 := JM_in hJ (by omega) ev111
        refine g_bipush (by decide) (fun v112 kv112 => ?_)
        refine g_if2_ne (fun c113 => ?_) (fun c113 => ?_)
        · refine g_iconst (by decide) (fun v114 kv114 => ?_)
          refine g_nop ?_
          exact g_zret (by omega) ⟨_, rfl, rfl, (by omega)⟩
        · refine g_iconst (by decide) (fun v115 kv115 => ?_)
          refine g_goto ?_
          exact g_zret (by omega) ⟨_, rfl, rfl, (by omega)⟩
set_option maxRecDepth 4000 in
set_option maxHeartbeats 4000000 in
/-- M.many -/
theorem s_213 (a1 : Int32) (a2 : Int32) (H : mzH) (hI : gI SM H) (hJ : JN H) : gCall 213 [.ref 0, .int a1, .int a2] H (gRi (fun v H' => gI SM H' ∧ JN H' ∧ fZ H' 0 2 = fZ H 0 2)) := by
  obtain ⟨k0_2, ek0_2⟩ : ∃ z, z = fZ H 0 2 := ⟨_, rfl⟩
  have ik0_2 : k0_2.toInt = (fZ H 0 2).toInt := by rw [← ek0_2]
  have bk0_2 : 0 ≤ k0_2.toInt ∧ k0_2.toInt ≤ 900 := by rw [ek0_2]; exact fZ_of hI sm_0 rfl
  refine gG_call [(0, .ref 0), (1, .int a1), (2, .int a2)] ⟨rfl, rfl, rfl, trivial⟩ ?_
  show gG 5 zB_213 (mzBlk zB_213 0) [(0, .ref 0), (1, .int a1), (2, .int a2)] [] H 0 0 _
  refine g_aload_n rfl ?_
  refine g_iconst (by decide) (fun v557 kv557 => ?_)
  refine g_pfi hI sm_0 rfl (gz_any _) (fun H558 eH558 hIH558 => ?_)
  have hJH558 : JN H558 := JN_sF eH558 hJ
  have e559 : k0_2 = fZ H558 0 2 := by rw [eH558, fZ_sF_ne (by decide)]; exact ek0_2
  refine g_iload_n rfl ?_
  refine g_invti rfl rfl rfl (s_206 a1 H558 hIH558 hJH558) (fun v562 H560 r561 => ?_)
  obtain ⟨rfl, bv562⟩ := r561
  refine g_if_eq (fun c563 => ?_) (fun c563 => ?_)
  · refine g_iconst (by decide) (fun v564 kv564 => ?_)
    exact g_iret ⟨_, rfl, hIH558, hJH558, (e559.symm.trans ek0_2)⟩
  · refine g_iload_n rfl ?_
    refine g_if_lt (fun c565 => ?_) (fun c565 => ?_)
    · refine g_iconst (by decide) (fun v566 kv566 => ?_)
      exact g_iret ⟨_, rfl, hIH558, hJH558, (e559.symm.trans ek0_2)⟩
    · refine g_iload_n rfl ?_
      refine g_iconst (by decide) (fun v567 kv567 => ?_)
      refine g_if2_le (fun c568 => ?_) (fun c568 => ?_)
      · refine g_aload_n rfl ?_
        refine g_iload_n rfl ?_
        refine g_invvv hIH558 sm_0 rfl rfl rfl rfl (s_200 a1 H558 hIH558 hJH558) (fun H569 r570 => ?_)
        obtain ⟨hIH569, hJH569, w571⟩ := r570
        have e572 : k0_2 = fZ H569 0 2 := e559.trans w571.symm
        refine g_iconst (by decide) (fun v573 kv573 => ?_)
        refine g_istore_n (l' := [(0, .ref 0), (1, .int a1), (2, .int a2), (3, .int v573)]) rfl rfl ?_
        refine g_iconst (by decide) (fun v574 kv574 => ?_)
        refine g_istore (l' := [(0, .ref 0), (1, .int a1), (2, .int a2), (3, .int v573), (4, .int v574)]) rfl rfl ?_
        refine g_nop ?_
        have L577 : ∀ (N : Nat) (v575 : Int32) (v576 : Int32), (0 ≤ v576.toInt ∧ v576.toInt ≤ 40) → (40 - v576.toInt).toNat < N → gG 5 zB_213 (mzBlk zB_213 3) [(0, .ref 0), (1, .int a1), (2, .int a2), (3, .int v575), (4, .int v576)] [] H569 0 0 (gRi (fun v H' => gI SM H' ∧ JN H' ∧ fZ H' 0 2 = fZ H 0 2)) := by
          intro N
          induction N with
          | zero => intro v575 v576 bv576 hmL577; exact absurd hmL577 (Nat.not_lt_zero _)
          | succ N ihL577 =>
            intro v575 v576 bv576 hmL577
            refine g_iload rfl ?_
            refine g_bipush (by decide) (fun v578 kv578 => ?_)
            refine g_if2_ge (fun c579 => ?_) (fun c579 => ?_)
            · refine g_iload_n rfl ?_
              exact g_iret ⟨_, rfl, hIH569, (JM_n hJH569), (e572.symm.trans ek0_2)⟩
            · refine g_iload_n rfl ?_
              refine g_aload_n rfl ?_
              refine g_iload rfl ?_
              refine g_iload_n rfl ?_
              refine g_invvi hIH569 sm_0 rfl rfl rfl rfl (s_212 v576 (by omega) a2 H569 hIH569 hJH569) (fun v582 H580 r581 => ?_)
              obtain ⟨rfl, bv582⟩ := r581
              refine g_if_eq (fun c583 => ?_) (fun c583 => ?_)
              · refine g_iconst (by decide) (fun v584 kv584 => ?_)
                refine g_nop ?_
                refine g_iadd (by have := gz_any v575; omega) (fun v585 ev585 => ?_)
                refine g_istore_n (l' := [(0, .ref 0), (1, .int a1), (2, .int a2), (3, .int v585), (4, .int v576)]) rfl rfl ?_
                refine g_iinc (l' := (fun v586 => [(0, .ref 0), (1, .int a1), (2, .int a2), (3, .int v585), (4, .int v586)])) rfl rfl (by decide) (by omega) (fun _ => rfl) (fun v586 ev586 => ?_)
                refine g_goto ?_
                exact ihL577 v585 v586 (by omega) (by omega)
              · refine g_iconst (by decide) (fun v587 kv587 => ?_)
                refine g_goto ?_
                refine g_iadd' (fun v588 _ => ?_)
                refine g_istore_n (l' := [(0, .ref 0), (1, .int a1), (2, .int a2), (3, .int v588), (4, .int v576)]) rfl rfl ?_
                refine g_iinc (l' := (fun v589 => [(0, .ref 0), (1, .int a1), (2, .int a2), (3, .int v588), (4, .int v589)])) rfl rfl (by decide) (by omega) (fun _ => rfl) (fun v589 ev589 => ?_)
                refine g_goto ?_
                exact ihL577 v588 v589 (by omega) (by omega)
        exact L577 _ v573 v574 (by omega) (Nat.lt_succ_self _)
      · refine g_nop ?_
        refine g_iconst (by decide) (fun v590 kv590 => ?_)
        exact g_iret ⟨_, rfl, hIH558, hJH558, (e559.symm.trans ek0_2)⟩
set_option maxRecDepth 4000 in
set_option maxHeartbeats 4000000 in
/-- M.laysTrail -/
theorem s_214 (a1 : Int32) (ha1 : 0 ≤ a1.toInt ∧ a1.toInt ≤ 39) (H : mzH) (hI : gI SM H) (hJ : JN H) : gCall 214 [.ref 0, .int a1] H (gRv (fun H' => gI SM H' ∧ JM H' ∧ fZ H' 0 2 = fZ H 0 2)) := by
  obtain ⟨k0_2, ek0_2⟩ : ∃ z, z = fZ H 0 2 := ⟨_, rfl⟩
  have ik0_2 : k0_2.toInt = (fZ H 0 2).toInt := by rw [← ek0_2]
  have bk0_2 : 0 ≤ k0_2.toInt ∧ k0_2.toInt ≤ 900 := by rw [ek0_2]; exact fZ_of hI sm_0 rfl
  refine gG_call [(0, .ref 0), (1, .int a1)] ⟨rfl, rfl, trivial⟩ ?_
  show gG 5 zB_214 (mzBlk zB_214 0) [(0, .ref 0), (1, .int a1)] [] H 0 0 _
  refine g_aload_n rfl ?_
  refine g_invvv hI sm_0 rfl rfl rfl rfl (s_182 H hI hJ) (fun H497 r498 => ?_)
  obtain ⟨hIH497, hJH497, m499, m500, p501⟩ := r498
  have e502 : k0_2 = fZ H497 0 2 := ek0_2.trans (m499 0 2).symm
  have im499_0_39 : (fZ H497 0 39).toInt = (fZ H 0 39).toInt := by rw [m499]
  refine g_aload_n rfl ?_
  refine g_invvv hIH497 sm_0 rfl rfl rfl rfl (s_184 H497 hIH497 hJH497) (fun H503 r504 => ?_)
  obtain ⟨hIH503, hJH503, w505, m506, m507, p508⟩ := r504
  have e509 : k0_2 = fZ H503 0 2 := e502.trans w505.symm
  refine g_aload_n rfl ?_
  refine g_iconst (by decide) (fun v510 kv510 => ?_)
  refine g_pfi hIH503 sm_0 rfl (by omega) (fun H511 eH511 hIH511 => ?_)
  have hJH511 : JM H511 := JM_sF eH511 hJH503
  have e512 : k0_2 = fZ H511 0 2 := by rw [eH511, fZ_sF_ne (by decide)]; exact e509
  have e513 : v510 = fZ H511 0 39 := by rw [eH511, fZ_sF_eq hIH503 sm_0 rfl]
  have ie513 : v510.toInt = (fZ H511 0 39).toInt := by rw [← e513]
  refine g_bipush (by decide) (fun v514 kv514 => ?_)
  refine g_istore_n (l' := [(0, .ref 0), (1, .int a1), (2, .int v514)]) rfl rfl ?_
  refine g_iconst (by decide) (fun v515 kv515 => ?_)
  refine g_istore_n (l' := [(0, .ref 0), (1, .int a1), (2, .int v514), (3, .int v515)]) rfl rfl ?_
  refine g_nop ?_
  have L520 : ∀ (N : Nat) (v516 : Int32) (v517 : Int32) (H518 : mzH), gI SM H518 → JM H518 → k0_2 = fZ H518 0 2 → (-4 ≤ v516.toInt ∧ v516.toInt ≤ 7) → (0 ≤ v517.toInt ∧ v517.toInt ≤ 60) → (fZ H518 0 39).toInt ≤ v517.toInt → (60 - v517.toInt).toNat < N → gG 5 zB_214 (mzBlk zB_214 1) [(0, .ref 0), (1, .int a1), (2, .int v516), (3, .int v517)] [] H518 0 0 (gRv (fun H' => gI SM H' ∧ JM H' ∧ fZ H' 0 2 = fZ H 0 2)) := by
    intro N
    induction N with
    | zero => intro v516 v517 H518 hIH518 hJH518 e519 bv516 bv517 q1 hmL520; exact absurd hmL520 (Nat.not_lt_zero _)
    | succ N ihL520 =>
      intro v516 v517 H518 hIH518 hJH518 e519 bv516 bv517 q1 hmL520
      obtain ⟨k521, ek521⟩ : ∃ z, z = fZ H518 0 39 := ⟨_, rfl⟩
      have ik521 : k521.toInt = (fZ H518 0 39).toInt := by rw [← ek521]
      have bk521 : 0 ≤ k521.toInt ∧ k521.toInt ≤ 60 := by rw [ek521]; exact fZ_of hIH518 sm_0 rfl
      refine g_iload_n rfl ?_
      refine g_aload_n rfl ?_
      refine g_gfi hIH518 sm_0 rfl (fun v522 ev522 lv522 uv522 => ?_)
      refine g_if2_ge (fun c523 => ?_) (fun c523 => ?_)
      · exact g_ret ⟨rfl, hIH518, hJH518, (e519.symm.trans ek0_2)⟩
      · refine g_aload_n rfl ?_
        refine g_aload_n rfl ?_
        refine g_gfr hIH518 sm_0 rfl ?_
        refine g_iload_n rfl ?_
        refine g_iaload hIH518 sm_19 rfl (by omega) (fun v524 ev524 lv524 uv524 => ?_)
        refine g_invvv hIH518 sm_0 rfl rfl rfl rfl (s_192 v524 (by omega) H518 hIH518 hJH518) (fun H525 r526 => ?_)
        obtain ⟨hIH525, hJH525, m527, m528, m529, m530⟩ := r526
        have e531 : k0_2 = fZ H525 0 2 := e519.trans (m527 0 2).symm
        have e532 : k521 = fZ H525 0 39 := ek521.trans (m527 0 39).symm
        have ie532 : k521.toInt = (fZ H525 0 39).toInt := by rw [← e532]
        refine g_aload_n rfl ?_
        refine g_iload_n rfl ?_
        refine g_invvi hIH525 sm_0 rfl rfl rfl rfl (s_201 a1 (by omega) H525 hIH525 hJH525) (fun v535 H533 r534 => ?_)
        obtain ⟨rfl, bv535⟩ := r534
        refine g_istore (l' := [(0, .ref 0), (1, .int a1), (2, .int v516), (3, .int v517), (4, .int v535)]) rfl rfl ?_
        refine g_iload rfl ?_
        refine g_iload_n rfl ?_
        refine g_if2_ne (fun c536 => ?_) (fun c536 => ?_)
        · refine g_aload_n rfl ?_
          refine g_gfr hIH525 sm_0 rfl ?_
          refine g_aload_n rfl ?_
          refine g_gfk hIH525 sm_0 rfl e532 ?_
          refine g_iload rfl ?_
          refine g_iastore hIH525 sm_22 (by omega) (by omega) (fun H537 eH537 hIH537 => ?_)
          have hJH537 : JM H537 := JM_sA (by decide) eH537 hJH525
          have e538 : k0_2 = fZ H537 0 2 := by rw [eH537, fZ_sA]; exact e531
          have e539 : k521 = fZ H537 0 39 := by rw [eH537, fZ_sA]; exact e532
          have ie539 : k521.toInt = (fZ H537 0 39).toInt := by rw [← e539]
          refine g_aload_n rfl ?_
          refine g_gfr hIH537 sm_0 rfl ?_
          refine g_aload_n rfl ?_
          refine g_gfk hIH537 sm_0 rfl e539 ?_
          refine g_aload_n rfl ?_
          refine g_gfr hIH537 sm_0 rfl ?_
          refine g_aload_n rfl ?_
          refine g_gfr hIH537 sm_0 rfl ?_
          refine g_iload_n rfl ?_
          refine g_iaload hIH537 sm_19 rfl (by omega) (fun v540 ev540 lv540 uv540 => ?_)
          refine g_iaload hIH537 sm_18 rfl (by omega) (fun v541 ev541 lv541 uv541 => ?_)
          refine g_iastore hIH537 sm_23 (by omega) (gz_any _) (fun H542 eH542 hIH542 => ?_)
          have hJH542 : JM H542 := JM_sA (by decide) eH542 hJH537
          have e543 : k0_2 = fZ H542 0 2 := by rw [eH542, fZ_sA]; exact e538
          have e544 : k521 = fZ H542 0 39 := by rw [eH542, fZ_sA]; exact e539
          have ie544 : k521.toInt = (fZ H542 0 39).toInt := by rw [← e544]
          refine g_aload_n rfl ?_
          refine g_dup rfl ?_
          refine g_gfk hIH542 sm_0 rfl e544 ?_
          refine g_iconst (by decide) (fun v545 kv545 => ?_)
          refine g_iadd (by omega) (fun v546 ev546 => ?_)
          refine g_pfi hIH542 sm_0 rfl (by omega) (fun H547 eH547 hIH547 => ?_)
          have hJH547 : JM H547 := JM_sF eH547 hJH542
          have e548 : k0_2 = fZ H547 0 2 := by rw [eH547, fZ_sF_ne (by decide)]; exact e543
          have e549 : v546 = fZ H547 0 39 := by rw [eH547, fZ_sF_eq hIH542 sm_0 rfl]
          have ie549 : v546.toInt = (fZ H547 0 39).toInt := by rw [← e549]
          refine g_iload rfl ?_
          refine g_istore_n (l' := [(0, .ref 0), (1, .int a1), (2, .int v535), (3, .int v517), (4, .int v535)]) rfl rfl ?_
          refine g_nop ?_
          refine g_iinc (l' := (fun v550 => [(0, .ref 0), (1, .int a1), (2, .int v535), (3, .int v550), (4, .int v535)])) rfl rfl (by decide) (by omega) (fun _ => rfl) (fun v550 ev550 => ?_)
          refine g_goto ?_
          refine gG_pick [0, 1, 2, 3] (l' := [(0, .ref 0), (1, .int a1), (2, .int v535), (3, .int v550)]) rfl ?_
          exact ihL520 v535 v550 H547 hIH547 hJH547 e548 (by omega) (by omega) (by omega) (by omega)
        · refine g_goto ?_
          refine g_iinc (l' := (fun v551 => [(0, .ref 0), (1, .int a1), (2, .int v516), (3, .int v551), (4, .int v535)])) rfl rfl (by decide) (by omega) (fun _ => rfl) (fun v551 ev551 => ?_)
          refine g_goto ?_
          refine gG_pick [0, 1, 2, 3] (l' := [(0, .ref 0), (1, .int a1), (2, .int v516), (3, .int v551)]) rfl ?_
          exact ihL520 v516 v551 H525 hIH525 hJH525 e531 (by omega) (by omega) (by omega) (by omega)
  exact L520 _ v514 v515 H511 hIH511 hJH511 e512 (by omega) (by omega) (by omega) (Nat.lt_succ_self _)
set_option maxRecDepth 4000 in
set_option maxHeartbeats 4000000 in
/-- M.trail -/
theorem s_215 (a1 : Int32) (a2 : Int32) (a3 : Int32) (H : mzH) (hI : gI SM H) (hJ : JN H) : gCall 215 [.ref 0, .int a1, .int a2, .int a3] H (gRi (fun v H' => gI SM H' ∧ JN H' ∧ fZ H' 0 2 = fZ H 0 2)) := by
  obtain ⟨k0_2, ek0_2⟩ : ∃ z, z = fZ H 0 2 := ⟨_, rfl⟩
  have ik0_2 : k0_2.toInt = (fZ H 0 2).toInt := by rw [← ek0_2]
  have bk0_2 : 0 ≤ k0_2.toInt ∧ k0_2.toInt ≤ 900 := by rw [ek0_2]; exact fZ_of hI sm_0 rfl
  refine gG_call [(0, .ref 0), (1, .int a1), (2, .int a2), (3, .int a3)] ⟨rfl, rfl, rfl, rfl, trivial⟩ ?_
  show gG 4 zB_215 (mzBlk zB_215 0) [(0, .ref 0), (1, .int a1), (2, .int a2), (3, .int a3)] [] H 0 0 _
  refine g_aload_n rfl ?_
  refine g_iconst (by decide) (fun v105 kv105 => ?_)
  refine g_pfi hI sm_0 rfl (gz_any _) (fun H106 eH106 hIH106 => ?_)
  have hJH106 : JN H106 := JN_sF eH106 hJ
  have e107 : k0_2 = fZ H106 0 2 := by rw [eH106, fZ_sF_ne (by decide)]; exact ek0_2
  refine g_iload_n rfl ?_
  refine g_invti rfl rfl rfl (s_205 a1 H106 hIH106 hJH106) (fun v110 H108 r109 => ?_)
  obtain ⟨rfl, bv110, p111⟩ := r109
  refine g_if_eq (fun c112 => ?_) (fun c112 => ?_)
  · refine g_bipush (by decide) (fun v113 kv113 => ?_)
    exact g_iret ⟨_, rfl, hIH106, hJH106, (e107.symm.trans ek0_2)⟩
  · refine g_iload_n rfl ?_
    refine g_if_lt (fun c114 => ?_) (fun c114 => ?_)
    · refine g_bipush (by decide) (fun v115 kv115 => ?_)
      exact g_iret ⟨_, rfl, hIH106, hJH106, (e107.symm.trans ek0_2)⟩
    · refine g_iload_n rfl ?_
      refine g_if_lt (fun c116 => ?_) (fun c116 => ?_)
      · refine g_bipush (by decide) (fun v117 kv117 => ?_)
        exact g_iret ⟨_, rfl, hIH106, hJH106, (e107.symm.trans ek0_2)⟩
      · refine g_iload_n rfl ?_
        refine g_iconst (by decide) (fun v118 kv118 => ?_)
        refine g_if2_le (fun c119 => ?_) (fun c119 => ?_)
        · refine g_aload_n rfl ?_
          refine g_iload_n rfl ?_
          refine g_invvv hIH106 sm_0 rfl rfl rfl rfl (s_214 a1 (by omega) H106 hIH106 hJH106) (fun H120 r121 => ?_)
          obtain ⟨hIH120, hJH120, w122⟩ := r121
          have e123 : k0_2 = fZ H120 0 2 := e107.trans w122.symm
          refine g_iload_n rfl ?_
          refine g_aload_n rfl ?_
          refine g_gfi hIH120 sm_0 rfl (fun v124 ev124 lv124 uv124 => ?_)
          refine g_if2_ge (fun c125 => ?_) (fun c125 => ?_)
          · refine g_bipush (by decide) (fun v126 kv126 => ?_)
            refine g_nop ?_
            exact g_iret ⟨_, rfl, hIH120, (JM_n hJH120), (e123.symm.trans ek0_2)⟩
          · refine g_iload_n rfl ?_
            refine g_if_ne (fun c127 => ?_) (fun c127 => ?_)
            · refine g_aload_n rfl ?_
              refine g_gfr hIH120 sm_0 rfl ?_
              refine g_iload_n rfl ?_
              refine g_iaload hIH120 sm_23 rfl (by omega) (fun v128 ev128 lv128 uv128 => ?_)
              refine g_goto ?_
              exact g_iret ⟨_, rfl, hIH120, (JM_n hJH120), (e123.symm.trans ek0_2)⟩
            · refine g_aload_n rfl ?_
              refine g_gfr hIH120 sm_0 rfl ?_
              refine g_iload_n rfl ?_
              refine g_iaload hIH120 sm_22 rfl (by omega) (fun v129 ev129 lv129 uv129 => ?_)
              refine g_goto ?_
              exact g_iret ⟨_, rfl, hIH120, (JM_n hJH120), (e123.symm.trans ek0_2)⟩
        · refine g_nop ?_
          refine g_bipush (by decide) (fun v130 kv130 => ?_)
          exact g_iret ⟨_, rfl, hIH106, hJH106, (e107.symm.trans ek0_2)⟩
set_option maxRecDepth 4000 in
set_option maxHeartbeats 4000000 in
/-- M.latest -/
theorem s_216 (H : mzH) (hI : gI SM H) (hJ : JN H) : gCall 216 [.ref 0] H (gRi (fun v H' => H = H')) := by
  refine gG_call [(0, .ref 0)] ⟨rfl, trivial⟩ ?_
  show gG 3 zB_216 (mzBlk zB_216 0) [(0, .ref 0)] [] H 0 0 _
  refine g_iconst (by decide) (fun v289 kv289 => ?_)
  refine g_istore_n (l' := [(0, .ref 0), (1, .int v289)]) rfl rfl ?_
  refine g_iconst (by decide) (fun v290 kv290 => ?_)
  refine g_istore_n (l' := [(0, .ref 0), (1, .int v289), (2, .int v290)]) rfl rfl ?_
  refine g_nop ?_
  have L293 : ∀ (N : Nat) (v291 : Int32) (v292 : Int32), (0 ≤ v292.toInt ∧ v292.toInt ≤ 60) → (60 - v292.toInt).toNat < N → gG 3 zB_216 (mzBlk zB_216 1) [(0, .ref 0), (1, .int v291), (2, .int v292)] [] H 0 0 (gRi (fun v H' => H = H')) := by
    intro N
    induction N with
    | zero => intro v291 v292 bv292 hmL293; exact absurd hmL293 (Nat.not_lt_zero _)
    | succ N ihL293 =>
      intro v291 v292 bv292 hmL293
      refine g_iload_n rfl ?_
      refine g_aload_n rfl ?_
      refine g_invvi hI sm_0 rfl rfl rfl rfl (s_180 H hI hJ) (fun v296 H294 r295 => ?_)
      obtain ⟨rfl, bv296, p297⟩ := r295
      refine g_if2_ge (fun c298 => ?_) (fun c298 => ?_)
      · refine g_iload_n rfl ?_
        exact g_iret ⟨_, rfl, rfl⟩
      · refine g_aload_n rfl ?_
        refine g_iload_n rfl ?_
        refine g_iconst (by decide) (fun v299 kv299 => ?_)
        refine g_invvi hI sm_0 rfl rfl rfl rfl (s_181 v292 (by omega) v299 (by omega) H hI hJ) (fun v302 H300 r301 => ?_)
        obtain ⟨rfl, p303⟩ := r301
        have tv302 : v302 = aZ H 2 (69 + 5 * v292.toInt + 0).toNat := by rw [p303, kv299]
        refine g_iload_n rfl ?_
        refine g_if2_le (fun c304 => ?_) (fun c304 => ?_)
        · refine g_iload_n rfl ?_
          refine g_nop ?_
          refine g_istore_n (l' := [(0, .ref 0), (1, .int v291), (2, .int v292)]) rfl rfl ?_
          refine g_iinc (l' := (fun v305 => [(0, .ref 0), (1, .int v291), (2, .int v305)])) rfl rfl (by decide) (by omega) (fun _ => rfl) (fun v305 ev305 => ?_)
          refine g_goto ?_
          exact ihL293 v291 v305 (by omega) (by omega)
        · refine g_aload_n rfl ?_
          refine g_iload_n rfl ?_
          refine g_iconst (by decide) (fun v306 kv306 => ?_)
          refine g_invvi hI sm_0 rfl rfl rfl rfl (s_181 v292 (by omega) v306 (by omega) H hI hJ) (fun v309 H307 r308 => ?_)
          obtain ⟨rfl, p310⟩ := r308
          have tv309 : v309 = aZ H 2 (69 + 5 * v292.toInt + 0).toNat := by rw [p310, kv306]
          refine g_goto ?_
          refine g_istore_n (l' := [(0, .ref 0), (1, .int v309), (2, .int v292)]) rfl rfl ?_
          refine g_iinc (l' := (fun v311 => [(0, .ref 0), (1, .int v309), (2, .int v311)])) rfl rfl (by decide) (by omega) (fun _ => rfl) (fun v311 ev311 => ?_)
          refine g_goto ?_
          exact ihL293 v309 v311 (by omega) (by omega)
  exact L293 _ v289 v290 (by omega) (Nat.lt_succ_self _)
set_option maxRecDepth 4000 in
set_option maxHeartbeats 4000000 in
/-- M.dwelt -/
theorem s_217 (a1 : Int32) (a2 : Int32) (H : mzH) (hI : gI SM H) (hJ : JN H) : gCall 217 [.ref 0, .int a1, .int a2] H (gRi (fun v H' => gI SM H' ∧ JN H' ∧ fZ H' 0 2 = fZ H 0 2)) := by
  obtain ⟨k0_2, ek0_2⟩ : ∃ z, z = fZ H 0 2 := ⟨_, rfl⟩
  have ik0_2 : k0_2.toInt = (fZ H 0 2).toInt := by rw [← ek0_2]
  have bk0_2 : 0 ≤ k0_2.toInt ∧ k0_2.toInt ≤ 900 := by rw [ek0_2]; exact fZ_of hI sm_0 rfl
  refine gG_call [(0, .ref 0), (1, .int a1), (2, .int a2)] ⟨rfl, rfl, rfl, trivial⟩ ?_
  show gG 5 zB_217 (mzBlk zB_217 0) [(0, .ref 0), (1, .int a1), (2, .int a2)] [] H 0 0 _
  refine g_aload_n rfl ?_
  refine g_iconst (by decide) (fun v495 kv495 => ?_)
  refine g_pfi hI sm_0 rfl (gz_any _) (fun H496 eH496 hIH496 => ?_)
  have hJH496 : JN H496 := JN_sF eH496 hJ
  have e497 : k0_2 = fZ H496 0 2 := by rw [eH496, fZ_sF_ne (by decide)]; exact ek0_2
  refine g_iload_n rfl ?_
  refine g_invti rfl rfl rfl (s_205 a1 H496 hIH496 hJH496) (fun v500 H498 r499 => ?_)
  obtain ⟨rfl, bv500, p501⟩ := r499
  refine g_if_eq (fun c502 => ?_) (fun c502 => ?_)
  · refine g_iconst (by decide) (fun v503 kv503 => ?_)
    exact g_iret ⟨_, rfl, hIH496, hJH496, (e497.symm.trans ek0_2)⟩
  · refine g_aload_n rfl ?_
    refine g_iload_n rfl ?_
    refine g_invvi hIH496 sm_0 rfl rfl rfl rfl (s_210 a2 H496 hIH496 hJH496) (fun v506 H504 r505 => ?_)
    obtain ⟨rfl, bv506, p507⟩ := r505
    refine g_if_ne (fun c508 => ?_) (fun c508 => ?_)
    · refine g_aload_n rfl ?_
      refine g_iload_n rfl ?_
      refine g_invvv hIH496 sm_0 rfl rfl rfl rfl (s_214 a1 (by omega) H496 hIH496 hJH496) (fun H509 r510 => ?_)
      obtain ⟨hIH509, hJH509, w511⟩ := r510
      have e512 : k0_2 = fZ H509 0 2 := e497.trans w511.symm
      refine g_iconst (by decide) (fun v513 kv513 => ?_)
      refine g_istore_n (l' := [(0, .ref 0), (1, .int a1), (2, .int a2), (3, .int v513)]) rfl rfl ?_
      refine g_iconst (by decide) (fun v514 kv514 => ?_)
      refine g_istore (l' := [(0, .ref 0), (1, .int a1), (2, .int a2), (3, .int v513), (4, .int v514)]) rfl rfl ?_
      refine g_nop ?_
      have L517 : ∀ (N : Nat) (v515 : Int32) (v516 : Int32), (0 ≤ v516.toInt ∧ v516.toInt ≤ 60) → (60 - v516.toInt).toNat < N → gG 5 zB_217 (mzBlk zB_217 3) [(0, .ref 0), (1, .int a1), (2, .int a2), (3, .int v515), (4, .int v516)] [] H509 0 0 (gRi (fun v H' => gI SM H' ∧ JN H' ∧ fZ H' 0 2 = fZ H 0 2)) := by
        intro N
        induction N with
        | zero => intro v515 v516 bv516 hmL517; exact absurd hmL517 (Nat.not_lt_zero _)
        | succ N ihL517 =>
          intro v515 v516 bv516 hmL517
          refine g_iload rfl ?_
          refine g_aload_n rfl ?_
          refine g_gfi hIH509 sm_0 rfl (fun v518 ev518 lv518 uv518 => ?_)
          refine g_if2_ge (fun c519 => ?_) (fun c519 => ?_)
          · refine g_iload_n rfl ?_
            exact g_iret ⟨_, rfl, hIH509, (JM_n hJH509), (e512.symm.trans ek0_2)⟩
          · refine g_aload_n rfl ?_
            refine g_gfr hIH509 sm_0 rfl ?_
            refine g_iload rfl ?_
            refine g_iaload hIH509 sm_22 rfl (by omega) (fun v520 ev520 lv520 uv520 => ?_)
            refine g_iload_n rfl ?_
            refine g_if2_ne (fun c521 => ?_) (fun c521 => ?_)
            · refine g_iinc (l' := (fun v522 => [(0, .ref 0), (1, .int a1), (2, .int a2), (3, .int v515), (4, .int v522)])) rfl rfl (by decide) (by omega) (fun _ => rfl) (fun v522 ev522 => ?_)
              refine g_goto ?_
              exact ihL517 v515 v522 (by omega) (by omega)
            · refine g_iload_n rfl ?_
              refine g_iload rfl ?_
              refine g_iconst (by decide) (fun v523 kv523 => ?_)
              refine g_iadd (by omega) (fun v524 ev524 => ?_)
              refine g_aload_n rfl ?_
              refine g_gfi hIH509 sm_0 rfl (fun v525 ev525 lv525 uv525 => ?_)
              refine g_if2_ge (fun c526 => ?_) (fun c526 => ?_)
              · refine g_aload_n rfl ?_
                refine g_invvi hIH509 sm_0 rfl rfl rfl rfl (s_216 H509 hIH509 (JM_n hJH509)) (fun v529 H527 r528 => ?_)
                obtain rfl := r528
                refine g_nop ?_
                refine g_aload_n rfl ?_
                refine g_gfr hIH509 sm_0 rfl ?_
                refine g_iload rfl ?_
                refine g_iaload hIH509 sm_23 rfl (by omega) (fun v530 ev530 lv530 uv530 => ?_)
                refine g_isub' (fun v531 _ => ?_)
                refine g_iadd' (fun v532 _ => ?_)
                refine g_istore_n (l' := [(0, .ref 0), (1, .int a1), (2, .int a2), (3, .int v532), (4, .int v516)]) rfl rfl ?_
                refine g_nop ?_
                refine g_iinc (l' := (fun v533 => [(0, .ref 0), (1, .int a1), (2, .int a2), (3, .int v532), (4, .int v533)])) rfl rfl (by decide) (by omega) (fun _ => rfl) (fun v533 ev533 => ?_)
                refine g_goto ?_
                exact ihL517 v532 v533 (by omega) (by omega)
              · refine g_aload_n rfl ?_
                refine g_gfr hIH509 sm_0 rfl ?_
                refine g_iload rfl ?_
                refine g_iconst (by decide) (fun v534 kv534 => ?_)
                refine g_iadd (by omega) (fun v535 ev535 => ?_)
                refine g_iaload hIH509 sm_23 rfl (by omega) (fun v536 ev536 lv536 uv536 => ?_)
                refine g_goto ?_
                refine g_aload_n rfl ?_
                refine g_gfr hIH509 sm_0 rfl ?_
                refine g_iload rfl ?_
                refine g_iaload hIH509 sm_23 rfl (by omega) (fun v537 ev537 lv537 uv537 => ?_)
                refine g_isub' (fun v538 _ => ?_)
                refine g_iadd' (fun v539 _ => ?_)
                refine g_istore_n (l' := [(0, .ref 0), (1, .int a1), (2, .int a2), (3, .int v539), (4, .int v516)]) rfl rfl ?_
                refine g_nop ?_
                refine g_iinc (l' := (fun v540 => [(0, .ref 0), (1, .int a1), (2, .int a2), (3, .int v539), (4, .int v540)])) rfl rfl (by decide) (by omega) (fun _ => rfl) (fun v540 ev540 => ?_)
                refine g_goto ?_
                exact ihL517 v539 v540 (by omega) (by omega)
      exact L517 _ v513 v514 (by omega) (Nat.lt_succ_self _)
    · refine g_iload_n rfl ?_
      refine g_bipush (by decide) (fun v541 kv541 => ?_)
      refine g_if2_eq (fun c542 => ?_) (fun c542 => ?_)
      · refine g_aload_n rfl ?_
        refine g_iload_n rfl ?_
        refine g_invvv hIH496 sm_0 rfl rfl rfl rfl (s_214 a1 (by omega) H496 hIH496 hJH496) (fun H543 r544 => ?_)
        obtain ⟨hIH543, hJH543, w545⟩ := r544
        have e546 : k0_2 = fZ H543 0 2 := e497.trans w545.symm
        refine g_iconst (by decide) (fun v547 kv547 => ?_)
        refine g_istore_n (l' := [(0, .ref 0), (1, .int a1), (2, .int a2), (3, .int v547)]) rfl rfl ?_
        refine g_iconst (by decide) (fun v548 kv548 => ?_)
        refine g_istore (l' := [(0, .ref 0), (1, .int a1), (2, .int a2), (3, .int v547), (4, .int v548)]) rfl rfl ?_
        refine g_nop ?_
        have L551 : ∀ (N : Nat) (v549 : Int32) (v550 : Int32), (0 ≤ v550.toInt ∧ v550.toInt ≤ 60) → (60 - v550.toInt).toNat < N → gG 5 zB_217 (mzBlk zB_217 3) [(0, .ref 0), (1, .int a1), (2, .int a2), (3, .int v549), (4, .int v550)] [] H543 0 0 (gRi (fun v H' => gI SM H' ∧ JN H' ∧ fZ H' 0 2 = fZ H 0 2)) := by
          intro N
          induction N with
          | zero => intro v549 v550 bv550 hmL551; exact absurd hmL551 (Nat.not_lt_zero _)
          | succ N ihL551 =>
            intro v549 v550 bv550 hmL551
            refine g_iload rfl ?_
            refine g_aload_n rfl ?_
            refine g_gfi hIH543 sm_0 rfl (fun v552 ev552 lv552 uv552 => ?_)
            refine g_if2_ge (fun c553 => ?_) (fun c553 => ?_)
            · refine g_iload_n rfl ?_
              exact g_iret ⟨_, rfl, hIH543, (JM_n hJH543), (e546.symm.trans ek0_2)⟩
            · refine g_aload_n rfl ?_
              refine g_gfr hIH543 sm_0 rfl ?_
              refine g_iload rfl ?_
              refine g_iaload hIH543 sm_22 rfl (by omega) (fun v554 ev554 lv554 uv554 => ?_)
              refine g_iload_n rfl ?_
              refine g_if2_ne (fun c555 => ?_) (fun c555 => ?_)
              · refine g_iinc (l' := (fun v556 => [(0, .ref 0), (1, .int a1), (2, .int a2), (3, .int v549), (4, .int v556)])) rfl rfl (by decide) (by omega) (fun _ => rfl) (fun v556 ev556 => ?_)
                refine g_goto ?_
                exact ihL551 v549 v556 (by omega) (by omega)
              · refine g_iload_n rfl ?_
                refine g_iload rfl ?_
                refine g_iconst (by decide) (fun v557 kv557 => ?_)
                refine g_iadd (by omega) (fun v558 ev558 => ?_)
                refine g_aload_n rfl ?_
                refine g_gfi hIH543 sm_0 rfl (fun v559 ev559 lv559 uv559 => ?_)
                refine g_if2_ge (fun c560 => ?_) (fun c560 => ?_)
                · refine g_aload_n rfl ?_
                  refine g_invvi hIH543 sm_0 rfl rfl rfl rfl (s_216 H543 hIH543 (JM_n hJH543)) (fun v563 H561 r562 => ?_)
                  obtain rfl := r562
                  refine g_nop ?_
                  refine g_aload_n rfl ?_
                  refine g_gfr hIH543 sm_0 rfl ?_
                  refine g_iload rfl ?_
                  refine g_iaload hIH543 sm_23 rfl (by omega) (fun v564 ev564 lv564 uv564 => ?_)
                  refine g_isub' (fun v565 _ => ?_)
                  refine g_iadd' (fun v566 _ => ?_)
                  refine g_istore_n (l' := [(0, .ref 0), (1, .int a1), (2, .int a2), (3, .int v566), (4, .int v550)]) rfl rfl ?_
                  refine g_nop ?_
                  refine g_iinc (l' := (fun v567 => [(0, .ref 0), (1, .int a1), (2, .int a2), (3, .int v566), (4, .int v567)])) rfl rfl (by decide) (by omega) (fun _ => rfl) (fun v567 ev567 => ?_)
                  refine g_goto ?_
                  exact ihL551 v566 v567 (by omega) (by omega)
                · refine g_aload_n rfl ?_
                  refine g_gfr hIH543 sm_0 rfl ?_
                  refine g_iload rfl ?_
                  refine g_iconst (by decide) (fun v568 kv568 => ?_)
                  refine g_iadd (by omega) (fun v569 ev569 => ?_)
                  refine g_iaload hIH543 sm_23 rfl (by omega) (fun v570 ev570 lv570 uv570 => ?_)
                  refine g_goto ?_
                  refine g_aload_n rfl ?_
                  refine g_gfr hIH543 sm_0 rfl ?_
                  refine g_iload rfl ?_
                  refine g_iaload hIH543 sm_23 rfl (by omega) (fun v571 ev571 lv571 uv571 => ?_)
                  refine g_isub' (fun v572 _ => ?_)
                  refine g_iadd' (fun v573 _ => ?_)
                  refine g_istore_n (l' := [(0, .ref 0), (1, .int a1), (2, .int a2), (3, .int v573), (4, .int v550)]) rfl rfl ?_
                  refine g_nop ?_
                  refine g_iinc (l' := (fun v574 => [(0, .ref 0), (1, .int a1), (2, .int a2), (3, .int v573), (4, .int v574)])) rfl rfl (by decide) (by omega) (fun _ => rfl) (fun v574 ev574 => ?_)
                  refine g_goto ?_
                  exact ihL551 v573 v574 (by omega) (by omega)
        exact L551 _ v547 v548 (by omega) (Nat.lt_succ_self _)
      · refine g_nop ?_
        refine g_iconst (by decide) (fun v575 kv575 => ?_)
        exact g_iret ⟨_, rfl, hIH496, hJH496, (e497.symm.trans ek0_2)⟩
set_option maxRecDepth 4000 in
set_option maxHeartbeats 4000000 in
/-- M.flow -/
theorem s_218 (a1 : Int32) (a2 : Int32) (H : mzH) (hI : gI SM H) (hJ : JN H) : gCall 218 [.ref 0, .int a1, .int a2] H (gRi (fun v H' => gI SM H' ∧ JN H' ∧ fZ H' 0 2 = fZ H 0 2)) := by
  obtain ⟨k0_2, ek0_2⟩ : ∃ z, z = fZ H 0 2 := ⟨_, rfl⟩
  have ik0_2 : k0_2.toInt = (fZ H 0 2).toInt := by rw [← ek0_2]
  have bk0_2 : 0 ≤ k0_2.toInt ∧ k0_2.toInt ≤ 900 := by rw [ek0_2]; exact fZ_of hI sm_0 rfl
  refine gG_call [(0, .ref 0), (1, .int a1), (2, .int a2)] ⟨rfl, rfl, rfl, trivial⟩ ?_
  show gG 7 zB_218 (mzBlk zB_218 0) [(0, .ref 0), (1, .int a1), (2, .int a2)] [] H 0 0 _
  refine g_aload_n rfl ?_
  refine g_iconst (by decide) (fun v1398 kv1398 => ?_)
  refine g_pfi hI sm_0 rfl (gz_any _) (fun H1399 eH1399 hIH1399 => ?_)
  have hJH1399 : JN H1399 := JN_sF eH1399 hJ
  have e1400 : k0_2 = fZ H1399 0 2 := by rw [eH1399, fZ_sF_ne (by decide)]; exact ek0_2
  refine g_aload_n rfl ?_
  refine g_iload_n rfl ?_
  refine g_invvi hIH1399 sm_0 rfl rfl rfl rfl (s_210 a1 H1399 hIH1399 hJH1399) (fun v1403 H1401 r1402 => ?_)
  obtain ⟨rfl, bv1403, p1404⟩ := r1402
  refine g_if_ne (fun c1405 => ?_) (fun c1405 => ?_)
  · refine g_aload_n rfl ?_
    refine g_iload_n rfl ?_
    refine g_invvi hIH1399 sm_0 rfl rfl rfl rfl (s_210 a2 H1399 hIH1399 hJH1399) (fun v1408 H1406 r1407 => ?_)
    obtain ⟨rfl, bv1408, p1409⟩ := r1407
    refine g_if_ne (fun c1410 => ?_) (fun c1410 => ?_)
    · refine g_iload_n rfl ?_
      refine g_iload_n rfl ?_
      refine g_if2_eq (fun c1411 => ?_) (fun c1411 => ?_)
      · refine g_iconst (by decide) (fun v1412 kv1412 => ?_)
        refine g_nop ?_
        refine g_istore_n (l' := [(0, .ref 0), (1, .int a1), (2, .int a2), (3, .int v1412)]) rfl rfl ?_
        refine g_iload_n rfl ?_
        refine g_if_ne (fun c1413 => ?_) (fun c1413 => ?_)
        · exfalso; omega
        · refine g_iconst (by decide) (fun v1414 kv1414 => ?_)
          exact g_iret ⟨_, rfl, hIH1399, hJH1399, (e1400.symm.trans ek0_2)⟩
      · refine g_iconst (by decide) (fun v1415 kv1415 => ?_)
        refine g_goto ?_
        refine g_istore_n (l' := [(0, .ref 0), (1, .int a1), (2, .int a2), (3, .int v1415)]) rfl rfl ?_
        refine g_iload_n rfl ?_
        refine g_if_ne (fun c1416 => ?_) (fun c1416 => ?_)
        · refine g_iconst (by decide) (fun v1417 kv1417 => ?_)
          refine g_istore (l' := [(0, .ref 0), (1, .int a1), (2, .int a2), (3, .int v1415), (4, .int v1417)]) rfl rfl ?_
          refine g_iconst (by decide) (fun v1418 kv1418 => ?_)
          refine g_istore (l' := [(0, .ref 0), (1, .int a1), (2, .int a2), (3, .int v1415), (4, .int v1417), (5, .int v1418)]) rfl rfl ?_
          refine g_nop ?_
          have L1423 : ∀ (N : Nat) (v1419 : Int32) (v1420 : Int32) (H1421 : mzH), gI SM H1421 → JN H1421 → k0_2 = fZ H1421 0 2 → (0 ≤ v1420.toInt ∧ v1420.toInt ≤ 40) → (40 - v1420.toInt).toNat < N → gG 7 zB_218 (mzBlk zB_218 6) [(0, .ref 0), (1, .int a1), (2, .int a2), (3, .int v1415), (4, .int v1419), (5, .int v1420)] [] H1421 0 0 (gRi (fun v H' => gI SM H' ∧ JN H' ∧ fZ H' 0 2 = fZ H 0 2)) := by
            intro N
            induction N with
            | zero => intro v1419 v1420 H1421 hIH1421 hJH1421 e1422 bv1420 hmL1423; exact absurd hmL1423 (Nat.not_lt_zero _)
            | succ N ihL1423 =>
              intro v1419 v1420 H1421 hIH1421 hJH1421 e1422 bv1420 hmL1423
              refine g_iload rfl ?_
              refine g_bipush (by decide) (fun v1424 kv1424 => ?_)
              refine g_if2_ge (fun c1425 => ?_) (fun c1425 => ?_)
              · refine g_iload rfl ?_
                exact g_iret ⟨_, rfl, hIH1421, hJH1421, (e1422.symm.trans ek0_2)⟩
              · refine g_aload_n rfl ?_
                refine g_iload rfl ?_
                refine g_invvv hIH1421 sm_0 rfl rfl rfl rfl (s_214 v1420 (by omega) H1421 hIH1421 hJH1421) (fun H1426 r1427 => ?_)
                obtain ⟨hIH1426, hJH1426, w1428⟩ := r1427
                have e1429 : k0_2 = fZ H1426 0 2 := e1422.trans w1428.symm
                refine g_iconst (by decide) (fun v1430 kv1430 => ?_)
                refine g_istore (l' := [(0, .ref 0), (1, .int a1), (2, .int a2), (3, .int v1415), (4, .int v1419), (5, .int v1420), (6, .int v1430)]) rfl rfl ?_
                refine g_nop ?_
                have L1433 : ∀ (N : Nat) (v1431 : Int32) (v1432 : Int32), (0 ≤ v1432.toInt ∧ v1432.toInt ≤ 59) → (59 - v1432.toInt).toNat < N → gG 7 zB_218 (mzBlk zB_218 7) [(0, .ref 0), (1, .int a1), (2, .int a2), (3, .int v1415), (4, .int v1431), (5, .int v1420), (6, .int v1432)] [] H1426 0 0 (gRi (fun v H' => gI SM H' ∧ JN H' ∧ fZ H' 0 2 = fZ H 0 2)) := by
                  intro N
                  induction N with
                  | zero => intro v1431 v1432 bv1432 hmL1433; exact absurd hmL1433 (Nat.not_lt_zero _)
                  | succ N ihL1433 =>
                    intro v1431 v1432 bv1432 hmL1433
                    refine g_iload rfl ?_
                    refine g_iconst (by decide) (fun v1434 kv1434 => ?_)
                    refine g_iadd (by omega) (fun v1435 ev1435 => ?_)
                    refine g_aload_n rfl ?_
                    refine g_gfi hIH1426 sm_0 rfl (fun v1436 ev1436 lv1436 uv1436 => ?_)
                    refine g_if2_ge (fun c1437 => ?_) (fun c1437 => ?_)
                    · refine g_iinc (l' := (fun v1438 => [(0, .ref 0), (1, .int a1), (2, .int a2), (3, .int v1415), (4, .int v1431), (5, .int v1438), (6, .int v1432)])) rfl rfl (by decide) (by omega) (fun _ => rfl) (fun v1438 ev1438 => ?_)
                      refine g_goto ?_
                      refine gG_pick [0, 1, 2, 3, 4, 5] (l' := [(0, .ref 0), (1, .int a1), (2, .int a2), (3, .int v1415), (4, .int v1431), (5, .int v1438)]) rfl ?_
                      exact ihL1423 v1431 v1438 H1426 hIH1426 (JM_n hJH1426) e1429 (by omega) (by omega)
                    · refine g_iload rfl ?_
                      refine g_aload_n rfl ?_
                      refine g_gfr hIH1426 sm_0 rfl ?_
                      refine g_iload rfl ?_
                      refine g_iaload hIH1426 sm_22 rfl (by omega) (fun v1439 ev1439 lv1439 uv1439 => ?_)
                      refine g_iload_n rfl ?_
                      refine g_if2_ne (fun c1440 => ?_) (fun c1440 => ?_)
                      · refine g_iconst (by decide) (fun v1441 kv1441 => ?_)
                        refine g_nop ?_
                        refine g_iadd (by have := gz_any v1431; omega) (fun v1442 ev1442 => ?_)
                        refine g_istore (l' := [(0, .ref 0), (1, .int a1), (2, .int a2), (3, .int v1415), (4, .int v1442), (5, .int v1420), (6, .int v1432)]) rfl rfl ?_
                        refine g_iinc (l' := (fun v1443 => [(0, .ref 0), (1, .int a1), (2, .int a2), (3, .int v1415), (4, .int v1442), (5, .int v1420), (6, .int v1443)])) rfl rfl (by decide) (by omega) (fun _ => rfl) (fun v1443 ev1443 => ?_)
                        refine g_goto ?_
                        exact ihL1433 v1442 v1443 (by omega) (by omega)
                      · refine g_aload_n rfl ?_
                        refine g_gfr hIH1426 sm_0 rfl ?_
                        refine g_iload rfl ?_
                        refine g_iconst (by decide) (fun v1444 kv1444 => ?_)
                        refine g_iadd (by omega) (fun v1445 ev1445 => ?_)
                        refine g_iaload hIH1426 sm_22 rfl (by omega) (fun v1446 ev1446 lv1446 uv1446 => ?_)
                        refine g_iload_n rfl ?_
                        refine g_if2_ne (fun c1447 => ?_) (fun c1447 => ?_)
                        · refine g_iconst (by decide) (fun v1448 kv1448 => ?_)
                          refine g_nop ?_
                          refine g_iadd (by have := gz_any v1431; omega) (fun v1449 ev1449 => ?_)
                          refine g_istore (l' := [(0, .ref 0), (1, .int a1), (2, .int a2), (3, .int v1415), (4, .int v1449), (5, .int v1420), (6, .int v1432)]) rfl rfl ?_
                          refine g_iinc (l' := (fun v1450 => [(0, .ref 0), (1, .int a1), (2, .int a2), (3, .int v1415), (4, .int v1449), (5, .int v1420), (6, .int v1450)])) rfl rfl (by decide) (by omega) (fun _ => rfl) (fun v1450 ev1450 => ?_)
                          refine g_goto ?_
                          exact ihL1433 v1449 v1450 (by omega) (by omega)
                        · refine g_iconst (by decide) (fun v1451 kv1451 => ?_)
                          refine g_goto ?_
                          refine g_iadd' (fun v1452 _ => ?_)
                          refine g_istore (l' := [(0, .ref 0), (1, .int a1), (2, .int a2), (3, .int v1415), (4, .int v1452), (5, .int v1420), (6, .int v1432)]) rfl rfl ?_
                          refine g_iinc (l' := (fun v1453 => [(0, .ref 0), (1, .int a1), (2, .int a2), (3, .int v1415), (4, .int v1452), (5, .int v1420), (6, .int v1453)])) rfl rfl (by decide) (by omega) (fun _ => rfl) (fun v1453 ev1453 => ?_)
                          refine g_goto ?_
                          exact ihL1433 v1452 v1453 (by omega) (by omega)
                exact L1433 _ v1419 v1430 (by omega) (Nat.lt_succ_self _)
          exact L1423 _ v1417 v1418 H1399 hIH1399 hJH1399 e1400 (by omega) (Nat.lt_succ_self _)
        · exfalso; omega
    · refine g_iload_n rfl ?_
      refine g_bipush (by decide) (fun v1454 kv1454 => ?_)
      refine g_if2_eq (fun c1455 => ?_) (fun c1455 => ?_)
      · refine g_iload_n rfl ?_
        refine g_iload_n rfl ?_
        refine g_if2_eq (fun c1456 => ?_) (fun c1456 => ?_)
        · exfalso; omega
        · refine g_iconst (by decide) (fun v1457 kv1457 => ?_)
          refine g_goto ?_
          refine g_istore_n (l' := [(0, .ref 0), (1, .int a1), (2, .int a2), (3, .int v1457)]) rfl rfl ?_
          refine g_iload_n rfl ?_
          refine g_if_ne (fun c1458 => ?_) (fun c1458 => ?_)
          · refine g_iconst (by decide) (fun v1459 kv1459 => ?_)
            refine g_istore (l' := [(0, .ref 0), (1, .int a1), (2, .int a2), (3, .int v1457), (4, .int v1459)]) rfl rfl ?_
            refine g_iconst (by decide) (fun v1460 kv1460 => ?_)
            refine g_istore (l' := [(0, .ref 0), (1, .int a1), (2, .int a2), (3, .int v1457), (4, .int v1459), (5, .int v1460)]) rfl rfl ?_
            refine g_nop ?_
            have L1465 : ∀ (N : Nat) (v1461 : Int32) (v1462 : Int32) (H1463 : mzH), gI SM H1463 → JN H1463 → k0_2 = fZ H1463 0 2 → (0 ≤ v1462.toInt ∧ v1462.toInt ≤ 40) → (40 - v1462.toInt).toNat < N → gG 7 zB_218 (mzBlk zB_218 6) [(0, .ref 0), (1, .int a1), (2, .int a2), (3, .int v1457), (4, .int v1461), (5, .int v1462)] [] H1463 0 0 (gRi (fun v H' => gI SM H' ∧ JN H' ∧ fZ H' 0 2 = fZ H 0 2)) := by
              intro N
              induction N with
              | zero => intro v1461 v1462 H1463 hIH1463 hJH1463 e1464 bv1462 hmL1465; exact absurd hmL1465 (Nat.not_lt_zero _)
              | succ N ihL1465 =>
                intro v1461 v1462 H1463 hIH1463 hJH1463 e1464 bv1462 hmL1465
                refine g_iload rfl ?_
                refine g_bipush (by decide) (fun v1466 kv1466 => ?_)
                refine g_if2_ge (fun c1467 => ?_) (fun c1467 => ?_)
                · refine g_iload rfl ?_
                  exact g_iret ⟨_, rfl, hIH1463, hJH1463, (e1464.symm.trans ek0_2)⟩
                · refine g_aload_n rfl ?_
                  refine g_iload rfl ?_
                  refine g_invvv hIH1463 sm_0 rfl rfl rfl rfl (s_214 v1462 (by omega) H1463 hIH1463 hJH1463) (fun H1468 r1469 => ?_)
                  obtain ⟨hIH1468, hJH1468, w1470⟩ := r1469
                  have e1471 : k0_2 = fZ H1468 0 2 := e1464.trans w1470.symm
                  refine g_iconst (by decide) (fun v1472 kv1472 => ?_)
                  refine g_istore (l' := [(0, .ref 0), (1, .int a1), (2, .int a2), (3, .int v1457), (4, .int v1461), (5, .int v1462), (6, .int v1472)]) rfl rfl ?_
                  refine g_nop ?_
                  have L1475 : ∀ (N : Nat) (v1473 : Int32) (v1474 : Int32), (0 ≤ v1474.toInt ∧ v1474.toInt ≤ 59) → (59 - v1474.toInt).toNat < N → gG 7 zB_218 (mzBlk zB_218 7) [(0, .ref 0), (1, .int a1), (2, .int a2), (3, .int v1457), (4, .int v1473), (5, .int v1462), (6, .int v1474)] [] H1468 0 0 (gRi (fun v H' => gI SM H' ∧ JN H' ∧ fZ H' 0 2 = fZ H 0 2)) := by
                    intro N
                    induction N with
                    | zero => intro v1473 v1474 bv1474 hmL1475; exact absurd hmL1475 (Nat.not_lt_zero _)
                    | succ N ihL1475 =>
                      intro v1473 v1474 bv1474 hmL1475
                      refine g_iload rfl ?_
                      refine g_iconst (by decide) (fun v1476 kv1476 => ?_)
                      refine g_iadd (by omega) (fun v1477 ev1477 => ?_)
                      refine g_aload_n rfl ?_
                      refine g_gfi hIH1468 sm_0 rfl (fun v1478 ev1478 lv1478 uv1478 => ?_)
                      refine g_if2_ge (fun c1479 => ?_) (fun c1479 => ?_)
                      · refine g_iinc (l' := (fun v1480 => [(0, .ref 0), (1, .int a1), (2, .int a2), (3, .int v1457), (4, .int v1473), (5, .int v1480), (6, .int v1474)])) rfl rfl (by decide) (by omega) (fun _ => rfl) (fun v1480 ev1480 => ?_)
                        refine g_goto ?_
                        refine gG_pick [0, 1, 2, 3, 4, 5] (l' := [(0, .ref 0), (1, .int a1), (2, .int a2), (3, .int v1457), (4, .int v1473), (5, .int v1480)]) rfl ?_
                        exact ihL1465 v1473 v1480 H1468 hIH1468 (JM_n hJH1468) e1471 (by omega) (by omega)
                      · refine g_iload rfl ?_
                        refine g_aload_n rfl ?_
                        refine g_gfr hIH1468 sm_0 rfl ?_
                        refine g_iload rfl ?_
                        refine g_iaload hIH1468 sm_22 rfl (by omega) (fun v1481 ev1481 lv1481 uv1481 => ?_)
                        refine g_iload_n rfl ?_
                        refine g_if2_ne (fun c1482 => ?_) (fun c1482 => ?_)
                        · refine g_iconst (by decide) (fun v1483 kv1483 => ?_)
                          refine g_nop ?_
                          refine g_iadd (by have := gz_any v1473; omega) (fun v1484 ev1484 => ?_)
                          refine g_istore (l' := [(0, .ref 0), (1, .int a1), (2, .int a2), (3, .int v1457), (4, .int v1484), (5, .int v1462), (6, .int v1474)]) rfl rfl ?_
                          refine g_iinc (l' := (fun v1485 => [(0, .ref 0), (1, .int a1), (2, .int a2), (3, .int v1457), (4, .int v1484), (5, .int v1462), (6, .int v1485)])) rfl rfl (by decide) (by omega) (fun _ => rfl) (fun v1485 ev1485 => ?_)
                          refine g_goto ?_
                          exact ihL1475 v1484 v1485 (by omega) (by omega)
                        · refine g_aload_n rfl ?_
                          refine g_gfr hIH1468 sm_0 rfl ?_
                          refine g_iload rfl ?_
                          refine g_iconst (by decide) (fun v1486 kv1486 => ?_)
                          refine g_iadd (by omega) (fun v1487 ev1487 => ?_)
                          refine g_iaload hIH1468 sm_22 rfl (by omega) (fun v1488 ev1488 lv1488 uv1488 => ?_)
                          refine g_iload_n rfl ?_
                          refine g_if2_ne (fun c1489 => ?_) (fun c1489 => ?_)
                          · refine g_iconst (by decide) (fun v1490 kv1490 => ?_)
                            refine g_nop ?_
                            refine g_iadd (by have := gz_any v1473; omega) (fun v1491 ev1491 => ?_)
                            refine g_istore (l' := [(0, .ref 0), (1, .int a1), (2, .int a2), (3, .int v1457), (4, .int v1491), (5, .int v1462), (6, .int v1474)]) rfl rfl ?_
                            refine g_iinc (l' := (fun v1492 => [(0, .ref 0), (1, .int a1), (2, .int a2), (3, .int v1457), (4, .int v1491), (5, .int v1462), (6, .int v1492)])) rfl rfl (by decide) (by omega) (fun _ => rfl) (fun v1492 ev1492 => ?_)
                            refine g_goto ?_
                            exact ihL1475 v1491 v1492 (by omega) (by omega)
                          · refine g_iconst (by decide) (fun v1493 kv1493 => ?_)
                            refine g_goto ?_
                            refine g_iadd' (fun v1494 _ => ?_)
                            refine g_istore (l' := [(0, .ref 0), (1, .int a1), (2, .int a2), (3, .int v1457), (4, .int v1494), (5, .int v1462), (6, .int v1474)]) rfl rfl ?_
                            refine g_iinc (l' := (fun v1495 => [(0, .ref 0), (1, .int a1), (2, .int a2), (3, .int v1457), (4, .int v1494), (5, .int v1462), (6, .int v1495)])) rfl rfl (by decide) (by omega) (fun _ => rfl) (fun v1495 ev1495 => ?_)
                            refine g_goto ?_
                            exact ihL1475 v1494 v1495 (by omega) (by omega)
                  exact L1475 _ v1461 v1472 (by omega) (Nat.lt_succ_self _)
            exact L1465 _ v1459 v1460 H1399 hIH1399 hJH1399 e1400 (by omega) (Nat.lt_succ_self _)
          · exfalso; omega
      · refine g_iload_n rfl ?_
        refine g_bipush (by decide) (fun v1496 kv1496 => ?_)
        refine g_if2_ne (fun c1497 => ?_) (fun c1497 => ?_)
        · refine g_iconst (by decide) (fun v1498 kv1498 => ?_)
          refine g_nop ?_
          refine g_istore_n (l' := [(0, .ref 0), (1, .int a1), (2, .int a2), (3, .int v1498)]) rfl rfl ?_
          refine g_iload_n rfl ?_
          refine g_if_ne (fun c1499 => ?_) (fun c1499 => ?_)
          · exfalso; omega
          · refine g_iconst (by decide) (fun v1500 kv1500 => ?_)
            exact g_iret ⟨_, rfl, hIH1399, hJH1399, (e1400.symm.trans ek0_2)⟩
        · refine g_nop ?_
          refine g_iload_n rfl ?_
          refine g_iload_n rfl ?_
          refine g_if2_eq (fun c1501 => ?_) (fun c1501 => ?_)
          · exfalso; omega
          · refine g_iconst (by decide) (fun v1502 kv1502 => ?_)
            refine g_goto ?_
            refine g_istore_n (l' := [(0, .ref 0), (1, .int a1), (2, .int a2), (3, .int v1502)]) rfl rfl ?_
            refine g_iload_n rfl ?_
            refine g_if_ne (fun c1503 => ?_) (fun c1503 => ?_)
            · refine g_iconst (by decide) (fun v1504 kv1504 => ?_)
              refine g_istore (l' := [(0, .ref 0), (1, .int a1), (2, .int a2), (3, .int v1502), (4, .int v1504)]) rfl rfl ?_
              refine g_iconst (by decide) (fun v1505 kv1505 => ?_)
              refine g_istore (l' := [(0, .ref 0), (1, .int a1), (2, .int a2), (3, .int v1502), (4, .int v1504), (5, .int v1505)]) rfl rfl ?_
              refine g_nop ?_
              have L1510 : ∀ (N : Nat) (v1506 : Int32) (v1507 : Int32) (H1508 : mzH), gI SM H1508 → JN H1508 → k0_2 = fZ H1508 0 2 → (0 ≤ v1507.toInt ∧ v1507.toInt ≤ 40) → (40 - v1507.toInt).toNat < N → gG 7 zB_218 (mzBlk zB_218 6) [(0, .ref 0), (1, .int a1), (2, .int a2), (3, .int v1502), (4, .int v1506), (5, .int v1507)] [] H1508 0 0 (gRi (fun v H' => gI SM H' ∧ JN H' ∧ fZ H' 0 2 = fZ H 0 2)) := by
                intro N
                induction N with
                | zero => intro v1506 v1507 H1508 hIH1508 hJH1508 e1509 bv1507 hmL1510; exact absurd hmL1510 (Nat.not_lt_zero _)
                | succ N ihL1510 =>
                  intro v1506 v1507 H1508 hIH1508 hJH1508 e1509 bv1507 hmL1510
                  refine g_iload rfl ?_
                  refine g_bipush (by decide) (fun v1511 kv1511 => ?_)
                  refine g_if2_ge (fun c1512 => ?_) (fun c1512 => ?_)
                  · refine g_iload rfl ?_
                    exact g_iret ⟨_, rfl, hIH1508, hJH1508, (e1509.symm.trans ek0_2)⟩
                  · refine g_aload_n rfl ?_
                    refine g_iload rfl ?_
                    refine g_invvv hIH1508 sm_0 rfl rfl rfl rfl (s_214 v1507 (by omega) H1508 hIH1508 hJH1508) (fun H1513 r1514 => ?_)
                    obtain ⟨hIH1513, hJH1513, w1515⟩ := r1514
                    have e1516 : k0_2 = fZ H1513 0 2 := e1509.trans w1515.symm
                    refine g_iconst (by decide) (fun v1517 kv1517 => ?_)
                    refine g_istore (l' := [(0, .ref 0), (1, .int a1), (2, .int a2), (3, .int v1502), (4, .int v1506), (5, .int v1507), (6, .int v1517)]) rfl rfl ?_
                    refine g_nop ?_
                    have L1520 : ∀ (N : Nat) (v1518 : Int32) (v1519 : Int32), (0 ≤ v1519.toInt ∧ v1519.toInt ≤ 59) → (59 - v1519.toInt).toNat < N → gG 7 zB_218 (mzBlk zB_218 7) [(0, .ref 0), (1, .int a1), (2, .int a2), (3, .int v1502), (4, .int v1518), (5, .int v1507), (6, .int v1519)] [] H1513 0 0 (gRi (fun v H' => gI SM H' ∧ JN H' ∧ fZ H' 0 2 = fZ H 0 2)) := by
                      intro N
                      induction N with
                      | zero => intro v1518 v1519 bv1519 hmL1520; exact absurd hmL1520 (Nat.not_lt_zero _)
                      | succ N ihL1520 =>
                        intro v1518 v1519 bv1519 hmL1520
                        refine g_iload rfl ?_
                        refine g_iconst (by decide) (fun v1521 kv1521 => ?_)
                        refine g_iadd (by omega) (fun v1522 ev1522 => ?_)
                        refine g_aload_n rfl ?_
                        refine g_gfi hIH1513 sm_0 rfl (fun v1523 ev1523 lv1523 uv1523 => ?_)
                        refine g_if2_ge (fun c1524 => ?_) (fun c1524 => ?_)
                        · refine g_iinc (l' := (fun v1525 => [(0, .ref 0), (1, .int a1), (2, .int a2), (3, .int v1502), (4, .int v1518), (5, .int v1525), (6, .int v1519)])) rfl rfl (by decide) (by omega) (fun _ => rfl) (fun v1525 ev1525 => ?_)
                          refine g_goto ?_
                          refine gG_pick [0, 1, 2, 3, 4, 5] (l' := [(0, .ref 0), (1, .int a1), (2, .int a2), (3, .int v1502), (4, .int v1518), (5, .int v1525)]) rfl ?_
                          exact ihL1510 v1518 v1525 H1513 hIH1513 (JM_n hJH1513) e1516 (by omega) (by omega)
                        · refine g_iload rfl ?_
                          refine g_aload_n rfl ?_
                          refine g_gfr hIH1513 sm_0 rfl ?_
                          refine g_iload rfl ?_
                          refine g_iaload hIH1513 sm_22 rfl (by omega) (fun v1526 ev1526 lv1526 uv1526 => ?_)
                          refine g_iload_n rfl ?_
                          refine g_if2_ne (fun c1527 => ?_) (fun c1527 => ?_)
                          · refine g_iconst (by decide) (fun v1528 kv1528 => ?_)
                            refine g_nop ?_
                            refine g_iadd (by have := gz_any v1518; omega) (fun v1529 ev1529 => ?_)
                            refine g_istore (l' := [(0, .ref 0), (1, .int a1), (2, .int a2), (3, .int v1502), (4, .int v1529), (5, .int v1507), (6, .int v1519)]) rfl rfl ?_
                            refine g_iinc (l' := (fun v1530 => [(0, .ref 0), (1, .int a1), (2, .int a2), (3, .int v1502), (4, .int v1529), (5, .int v1507), (6, .int v1530)])) rfl rfl (by decide) (by omega) (fun _ => rfl) (fun v1530 ev1530 => ?_)
                            refine g_goto ?_
                            exact ihL1520 v1529 v1530 (by omega) (by omega)
                          · refine g_aload_n rfl ?_
                            refine g_gfr hIH1513 sm_0 rfl ?_
                            refine g_iload rfl ?_
                            refine g_iconst (by decide) (fun v1531 kv1531 => ?_)
                            refine g_iadd (by omega) (fun v1532 ev1532 => ?_)
                            refine g_iaload hIH1513 sm_22 rfl (by omega) (fun v1533 ev1533 lv1533 uv1533 => ?_)
                            refine g_iload_n rfl ?_
                            refine g_if2_ne (fun c1534 => ?_) (fun c1534 => ?_)
                            · refine g_iconst (by decide) (fun v1535 kv1535 => ?_)
                              refine g_nop ?_
                              refine g_iadd (by have := gz_any v1518; omega) (fun v1536 ev1536 => ?_)
                              refine g_istore (l' := [(0, .ref 0), (1, .int a1), (2, .int a2), (3, .int v1502), (4, .int v1536), (5, .int v1507), (6, .int v1519)]) rfl rfl ?_
                              refine g_iinc (l' := (fun v1537 => [(0, .ref 0), (1, .int a1), (2, .int a2), (3, .int v1502), (4, .int v1536), (5, .int v1507), (6, .int v1537)])) rfl rfl (by decide) (by omega) (fun _ => rfl) (fun v1537 ev1537 => ?_)
                              refine g_goto ?_
                              exact ihL1520 v1536 v1537 (by omega) (by omega)
                            · refine g_iconst (by decide) (fun v1538 kv1538 => ?_)
                              refine g_goto ?_
                              refine g_iadd' (fun v1539 _ => ?_)
                              refine g_istore (l' := [(0, .ref 0), (1, .int a1), (2, .int a2), (3, .int v1502), (4, .int v1539), (5, .int v1507), (6, .int v1519)]) rfl rfl ?_
                              refine g_iinc (l' := (fun v1540 => [(0, .ref 0), (1, .int a1), (2, .int a2), (3, .int v1502), (4, .int v1539), (5, .int v1507), (6, .int v1540)])) rfl rfl (by decide) (by omega) (fun _ => rfl) (fun v1540 ev1540 => ?_)
                              refine g_goto ?_
                              exact ihL1520 v1539 v1540 (by omega) (by omega)
                    exact L1520 _ v1506 v1517 (by omega) (Nat.lt_succ_self _)
              exact L1510 _ v1504 v1505 H1399 hIH1399 hJH1399 e1400 (by omega) (Nat.lt_succ_self _)
            · exfalso; omega
  · refine g_iload_n rfl ?_
    refine g_bipush (by decide) (fun v1541 kv1541 => ?_)
    refine g_if2_ne (fun c1542 => ?_) (fun c1542 => ?_)
    · refine g_iconst (by decide) (fun v1543 kv1543 => ?_)
      refine g_nop ?_
      refine g_istore_n (l' := [(0, .ref 0), (1, .int a1), (2, .int a2), (3, .int v1543)]) rfl rfl ?_
      refine g_iload_n rfl ?_
      refine g_if_ne (fun c1544 => ?_) (fun c1544 => ?_)
      · exfalso; omega
      · refine g_iconst (by decide) (fun v1545 kv1545 => ?_)
        exact g_iret ⟨_, rfl, hIH1399, hJH1399, (e1400.symm.trans ek0_2)⟩
    · refine g_nop ?_
      refine g_aload_n rfl ?_
      refine g_iload_n rfl ?_
      refine g_invvi hIH1399 sm_0 rfl rfl rfl rfl (s_210 a2 H1399 hIH1399 hJH1399) (fun v1548 H1546 r1547 => ?_)
      obtain ⟨rfl, bv1548, p1549⟩ := r1547
      refine g_if_ne (fun c1550 => ?_) (fun c1550 => ?_)
      · refine g_iload_n rfl ?_
        refine g_iload_n rfl ?_
        refine g_if2_eq (fun c1551 => ?_) (fun c1551 => ?_)
        · exfalso; omega
        · refine g_iconst (by decide) (fun v1552 kv1552 => ?_)
          refine g_goto ?_
          refine g_istore_n (l' := [(0, .ref 0), (1, .int a1), (2, .int a2), (3, .int v1552)]) rfl rfl ?_
          refine g_iload_n rfl ?_
          refine g_if_ne (fun c1553 => ?_) (fun c1553 => ?_)
          · refine g_iconst (by decide) (fun v1554 kv1554 => ?_)
            refine g_istore (l' := [(0, .ref 0), (1, .int a1), (2, .int a2), (3, .int v1552), (4, .int v1554)]) rfl rfl ?_
            refine g_iconst (by decide) (fun v1555 kv1555 => ?_)
            refine g_istore (l' := [(0, .ref 0), (1, .int a1), (2, .int a2), (3, .int v1552), (4, .int v1554), (5, .int v1555)]) rfl rfl ?_
            refine g_nop ?_
            have L1560 : ∀ (N : Nat) (v1556 : Int32) (v1557 : Int32) (H1558 : mzH), gI SM H1558 → JN H1558 → k0_2 = fZ H1558 0 2 → (0 ≤ v1557.toInt ∧ v1557.toInt ≤ 40) → (40 - v1557.toInt).toNat < N → gG 7 zB_218 (mzBlk zB_218 6) [(0, .ref 0), (1, .int a1), (2, .int a2), (3, .int v1552), (4, .int v1556), (5, .int v1557)] [] H1558 0 0 (gRi (fun v H' => gI SM H' ∧ JN H' ∧ fZ H' 0 2 = fZ H 0 2)) := by
              intro N
              induction N with
              | zero => intro v1556 v1557 H1558 hIH1558 hJH1558 e1559 bv1557 hmL1560; exact absurd hmL1560 (Nat.not_lt_zero _)
              | succ N ihL1560 =>
                intro v1556 v1557 H1558 hIH1558 hJH1558 e1559 bv1557 hmL1560
                refine g_iload rfl ?_
                refine g_bipush (by decide) (fun v1561 kv1561 => ?_)
                refine g_if2_ge (fun c1562 => ?_) (fun c1562 => ?_)
                · refine g_iload rfl ?_
                  exact g_iret ⟨_, rfl, hIH1558, hJH1558, (e1559.symm.trans ek0_2)⟩
                · refine g_aload_n rfl ?_
                  refine g_iload rfl ?_
                  refine g_invvv hIH1558 sm_0 rfl rfl rfl rfl (s_214 v1557 (by omega) H1558 hIH1558 hJH1558) (fun H1563 r1564 => ?_)
                  obtain ⟨hIH1563, hJH1563, w1565⟩ := r1564
                  have e1566 : k0_2 = fZ H1563 0 2 := e1559.trans w1565.symm
                  refine g_iconst (by decide) (fun v1567 kv1567 => ?_)
                  refine g_istore (l' := [(0, .ref 0), (1, .int a1), (2, .int a2), (3, .int v1552), (4, .int v1556), (5, .int v1557), (6, .int v1567)]) rfl rfl ?_
                  refine g_nop ?_
                  have L1570 : ∀ (N : Nat) (v1568 : Int32) (v1569 : Int32), (0 ≤ v1569.toInt ∧ v1569.toInt ≤ 59) → (59 - v1569.toInt).toNat < N → gG 7 zB_218 (mzBlk zB_218 7) [(0, .ref 0), (1, .int a1), (2, .int a2), (3, .int v1552), (4, .int v1568), (5, .int v1557), (6, .int v1569)] [] H1563 0 0 (gRi (fun v H' => gI SM H' ∧ JN H' ∧ fZ H' 0 2 = fZ H 0 2)) := by
                    intro N
                    induction N with
                    | zero => intro v1568 v1569 bv1569 hmL1570; exact absurd hmL1570 (Nat.not_lt_zero _)
                    | succ N ihL1570 =>
                      intro v1568 v1569 bv1569 hmL1570
                      refine g_iload rfl ?_
                      refine g_iconst (by decide) (fun v1571 kv1571 => ?_)
                      refine g_iadd (by omega) (fun v1572 ev1572 => ?_)
                      refine g_aload_n rfl ?_
                      refine g_gfi hIH1563 sm_0 rfl (fun v1573 ev1573 lv1573 uv1573 => ?_)
                      refine g_if2_ge (fun c1574 => ?_) (fun c1574 => ?_)
                      · refine g_iinc (l' := (fun v1575 => [(0, .ref 0), (1, .int a1), (2, .int a2), (3, .int v1552), (4, .int v1568), (5, .int v1575), (6, .int v1569)])) rfl rfl (by decide) (by omega) (fun _ => rfl) (fun v1575 ev1575 => ?_)
                        refine g_goto ?_
                        refine gG_pick [0, 1, 2, 3, 4, 5] (l' := [(0, .ref 0), (1, .int a1), (2, .int a2), (3, .int v1552), (4, .int v1568), (5, .int v1575)]) rfl ?_
                        exact ihL1560 v1568 v1575 H1563 hIH1563 (JM_n hJH1563) e1566 (by omega) (by omega)
                      · refine g_iload rfl ?_
                        refine g_aload_n rfl ?_
                        refine g_gfr hIH1563 sm_0 rfl ?_
                        refine g_iload rfl ?_
                        refine g_iaload hIH1563 sm_22 rfl (by omega) (fun v1576 ev1576 lv1576 uv1576 => ?_)
                        refine g_iload_n rfl ?_
                        refine g_if2_ne (fun c1577 => ?_) (fun c1577 => ?_)
                        · refine g_iconst (by decide) (fun v1578 kv1578 => ?_)
                          refine g_nop ?_
                          refine g_iadd (by have := gz_any v1568; omega) (fun v1579 ev1579 => ?_)
                          refine g_istore (l' := [(0, .ref 0), (1, .int a1), (2, .int a2), (3, .int v1552), (4, .int v1579), (5, .int v1557), (6, .int v1569)]) rfl rfl ?_
                          refine g_iinc (l' := (fun v1580 => [(0, .ref 0), (1, .int a1), (2, .int a2), (3, .int v1552), (4, .int v1579), (5, .int v1557), (6, .int v1580)])) rfl rfl (by decide) (by omega) (fun _ => rfl) (fun v1580 ev1580 => ?_)
                          refine g_goto ?_
                          exact ihL1570 v1579 v1580 (by omega) (by omega)
                        · refine g_aload_n rfl ?_
                          refine g_gfr hIH1563 sm_0 rfl ?_
                          refine g_iload rfl ?_
                          refine g_iconst (by decide) (fun v1581 kv1581 => ?_)
                          refine g_iadd (by omega) (fun v1582 ev1582 => ?_)
                          refine g_iaload hIH1563 sm_22 rfl (by omega) (fun v1583 ev1583 lv1583 uv1583 => ?_)
                          refine g_iload_n rfl ?_
                          refine g_if2_ne (fun c1584 => ?_) (fun c1584 => ?_)
                          · refine g_iconst (by decide) (fun v1585 kv1585 => ?_)
                            refine g_nop ?_
                            refine g_iadd (by have := gz_any v1568; omega) (fun v1586 ev1586 => ?_)
                            refine g_istore (l' := [(0, .ref 0), (1, .int a1), (2, .int a2), (3, .int v1552), (4, .int v1586), (5, .int v1557), (6, .int v1569)]) rfl rfl ?_
                            refine g_iinc (l' := (fun v1587 => [(0, .ref 0), (1, .int a1), (2, .int a2), (3, .int v1552), (4, .int v1586), (5, .int v1557), (6, .int v1587)])) rfl rfl (by decide) (by omega) (fun _ => rfl) (fun v1587 ev1587 => ?_)
                            refine g_goto ?_
                            exact ihL1570 v1586 v1587 (by omega) (by omega)
                          · refine g_iconst (by decide) (fun v1588 kv1588 => ?_)
                            refine g_goto ?_
                            refine g_iadd' (fun v1589 _ => ?_)
                            refine g_istore (l' := [(0, .ref 0), (1, .int a1), (2, .int a2), (3, .int v1552), (4, .int v1589), (5, .int v1557), (6, .int v1569)]) rfl rfl ?_
                            refine g_iinc (l' := (fun v1590 => [(0, .ref 0), (1, .int a1), (2, .int a2), (3, .int v1552), (4, .int v1589), (5, .int v1557), (6, .int v1590)])) rfl rfl (by decide) (by omega) (fun _ => rfl) (fun v1590 ev1590 => ?_)
                            refine g_goto ?_
                            exact ihL1570 v1589 v1590 (by omega) (by omega)
                  exact L1570 _ v1556 v1567 (by omega) (Nat.lt_succ_self _)
            exact L1560 _ v1554 v1555 H1399 hIH1399 hJH1399 e1400 (by omega) (Nat.lt_succ_self _)
          · exfalso; omega
      · refine g_iload_n rfl ?_
        refine g_bipush (by decide) (fun v1591 kv1591 => ?_)
        refine g_if2_eq (fun c1592 => ?_) (fun c1592 => ?_)
        · refine g_iload_n rfl ?_
          refine g_iload_n rfl ?_
          refine g_if2_eq (fun c1593 => ?_) (fun c1593 => ?_)
          · refine g_iconst (by decide) (fun v1594 kv1594 => ?_)
            refine g_nop ?_
            refine g_istore_n (l' := [(0, .ref 0), (1, .int a1), (2, .int a2), (3, .int v1594)]) rfl rfl ?_
            refine g_iload_n rfl ?_
            refine g_if_ne (fun c1595 => ?_) (fun c1595 => ?_)
            · exfalso; omega
            · refine g_iconst (by decide) (fun v1596 kv1596 => ?_)
              exact g_iret ⟨_, rfl, hIH1399, hJH1399, (e1400.symm.trans ek0_2)⟩
          · exfalso; omega
        · refine g_iload_n rfl ?_
          refine g_bipush (by decide) (fun v1597 kv1597 => ?_)
          refine g_if2_ne (fun c1598 => ?_) (fun c1598 => ?_)
          · refine g_iconst (by decide) (fun v1599 kv1599 => ?_)
            refine g_nop ?_
            refine g_istore_n (l' := [(0, .ref 0), (1, .int a1), (2, .int a2), (3, .int v1599)]) rfl rfl ?_
            refine g_iload_n rfl ?_
            refine g_if_ne (fun c1600 => ?_) (fun c1600 => ?_)
            · exfalso; omega
            · refine g_iconst (by decide) (fun v1601 kv1601 => ?_)
              exact g_iret ⟨_, rfl, hIH1399, hJH1399, (e1400.symm.trans ek0_2)⟩
          · refine g_nop ?_
            refine g_iload_n rfl ?_
            refine g_iload_n rfl ?_
            refine g_if2_eq (fun c1602 => ?_) (fun c1602 => ?_)
            · exfalso; omega
            · refine g_iconst (by decide) (fun v1603 kv1603 => ?_)
              refine g_goto ?_
              refine g_istore_n (l' := [(0, .ref 0), (1, .int a1), (2, .int a2), (3, .int v1603)]) rfl rfl ?_
              refine g_iload_n rfl ?_
              refine g_if_ne (fun c1604 => ?_) (fun c1604 => ?_)
              · refine g_iconst (by decide) (fun v1605 kv1605 => ?_)
                refine g_istore (l' := [(0, .ref 0), (1, .int a1), (2, .int a2), (3, .int v1603), (4, .int v1605)]) rfl rfl ?_
                refine g_iconst (by decide) (fun v1606 kv1606 => ?_)
                refine g_istore (l' := [(0, .ref 0), (1, .int a1), (2, .int a2), (3, .int v1603), (4, .int v1605), (5, .int v1606)]) rfl rfl ?_
                refine g_nop ?_
                have L1611 : ∀ (N : Nat) (v1607 : Int32) (v1608 : Int32) (H1609 : mzH), gI SM H1609 → JN H1609 → k0_2 = fZ H1609 0 2 → (0 ≤ v1608.toInt ∧ v1608.toInt ≤ 40) → (40 - v1608.toInt).toNat < N → gG 7 zB_218 (mzBlk zB_218 6) [(0, .ref 0), (1, .int a1), (2, .int a2), (3, .int v1603), (4, .int v1607), (5, .int v1608)] [] H1609 0 0 (gRi (fun v H' => gI SM H' ∧ JN H' ∧ fZ H' 0 2 = fZ H 0 2)) := by
                  intro N
                  induction N with
                  | zero => intro v1607 v1608 H1609 hIH1609 hJH1609 e1610 bv1608 hmL1611; exact absurd hmL1611 (Nat.not_lt_zero _)
                  | succ N ihL1611 =>
                    intro v1607 v1608 H1609 hIH1609 hJH1609 e1610 bv1608 hmL1611
                    refine g_iload rfl ?_
                    refine g_bipush (by decide) (fun v1612 kv1612 => ?_)
                    refine g_if2_ge (fun c1613 => ?_) (fun c1613 => ?_)
                    · refine g_iload rfl ?_
                      exact g_iret ⟨_, rfl, hIH1609, hJH1609, (e1610.symm.trans ek0_2)⟩
                    · refine g_aload_n rfl ?_
                      refine g_iload rfl ?_
                      refine g_invvv hIH1609 sm_0 rfl rfl rfl rfl (s_214 v1608 (by omega) H1609 hIH1609 hJH1609) (fun H1614 r1615 => ?_)
                      obtain ⟨hIH1614, hJH1614, w1616⟩ := r1615
                      have e1617 : k0_2 = fZ H1614 0 2 := e1610.trans w1616.symm
                      refine g_iconst (by decide) (fun v1618 kv1618 => ?_)
                      refine g_istore (l' := [(0, .ref 0), (1, .int a1), (2, .int a2), (3, .int v1603), (4, .int v1607), (5, .int v1608), (6, .int v1618)]) rfl rfl ?_
                      refine g_nop ?_
                      have L1621 : ∀ (N : Nat) (v1619 : Int32) (v1620 : Int32), (0 ≤ v1620.toInt ∧ v1620.toInt ≤ 59) → (59 - v1620.toInt).toNat < N → gG 7 zB_218 (mzBlk zB_218 7) [(0, .ref 0), (1, .int a1), (2, .int a2), (3, .int v1603), (4, .int v1619), (5, .int v1608), (6, .int v1620)] [] H1614 0 0 (gRi (fun v H' => gI SM H' ∧ JN H' ∧ fZ H' 0 2 = fZ H 0 2)) := by
                        intro N
                        induction N with
                        | zero => intro v1619 v1620 bv1620 hmL1621; exact absurd hmL1621 (Nat.not_lt_zero _)
                        | succ N ihL1621 =>
                          intro v1619 v1620 bv1620 hmL1621
                          refine g_iload rfl ?_
                          refine g_iconst (by decide) (fun v1622 kv1622 => ?_)
                          refine g_iadd (by omega) (fun v1623 ev1623 => ?_)
                          refine g_aload_n rfl ?_
                          refine g_gfi hIH1614 sm_0 rfl (fun v1624 ev1624 lv1624 uv1624 => ?_)
                          refine g_if2_ge (fun c1625 => ?_) (fun c1625 => ?_)
                          · refine g_iinc (l' := (fun v1626 => [(0, .ref 0), (1, .int a1), (2, .int a2), (3, .int v1603), (4, .int v1619), (5, .int v1626), (6, .int v1620)])) rfl rfl (by decide) (by omega) (fun _ => rfl) (fun v1626 ev1626 => ?_)
                            refine g_goto ?_
                            refine gG_pick [0, 1, 2, 3, 4, 5] (l' := [(0, .ref 0), (1, .int a1), (2, .int a2), (3, .int v1603), (4, .int v1619), (5, .int v1626)]) rfl ?_
                            exact ihL1611 v1619 v1626 H1614 hIH1614 (JM_n hJH1614) e1617 (by omega) (by omega)
                          · refine g_iload rfl ?_
                            refine g_aload_n rfl ?_
                            refine g_gfr hIH1614 sm_0 rfl ?_
                            refine g_iload rfl ?_
                            refine g_iaload hIH1614 sm_22 rfl (by omega) (fun v1627 ev1627 lv1627 uv1627 => ?_)
                            refine g_iload_n rfl ?_
                            refine g_if2_ne (fun c1628 => ?_) (fun c1628 => ?_)
                            · refine g_iconst (by decide) (fun v1629 kv1629 => ?_)
                              refine g_nop ?_
                              refine g_iadd (by have := gz_any v1619; omega) (fun v1630 ev1630 => ?_)
                              refine g_istore (l' := [(0, .ref 0), (1, .int a1), (2, .int a2), (3, .int v1603), (4, .int v1630), (5, .int v1608), (6, .int v1620)]) rfl rfl ?_
                              refine g_iinc (l' := (fun v1631 => [(0, .ref 0), (1, .int a1), (2, .int a2), (3, .int v1603), (4, .int v1630), (5, .int v1608), (6, .int v1631)])) rfl rfl (by decide) (by omega) (fun _ => rfl) (fun v1631 ev1631 => ?_)
                              refine g_goto ?_
                              exact ihL1621 v1630 v1631 (by omega) (by omega)
                            · refine g_aload_n rfl ?_
                              refine g_gfr hIH1614 sm_0 rfl ?_
                              refine g_iload rfl ?_
                              refine g_iconst (by decide) (fun v1632 kv1632 => ?_)
                              refine g_iadd (by omega) (fun v1633 ev1633 => ?_)
                              refine g_iaload hIH1614 sm_22 rfl (by omega) (fun v1634 ev1634 lv1634 uv1634 => ?_)
                              refine g_iload_n rfl ?_
                              refine g_if2_ne (fun c1635 => ?_) (fun c1635 => ?_)
                              · refine g_iconst (by decide) (fun v1636 kv1636 => ?_)
                                refine g_nop ?_
                                refine g_iadd (by have := gz_any v1619; omega) (fun v1637 ev1637 => ?_)
                                refine g_istore (l' := [(0, .ref 0), (1, .int a1), (2, .int a2), (3, .int v1603), (4, .int v1637), (5, .int v1608), (6, .int v1620)]) rfl rfl ?_
                                refine g_iinc (l' := (fun v1638 => [(0, .ref 0), (1, .int a1), (2, .int a2), (3, .int v1603), (4, .int v1637), (5, .int v1608), (6, .int v1638)])) rfl rfl (by decide) (by omega) (fun _ => rfl) (fun v1638 ev1638 => ?_)
                                refine g_goto ?_
                                exact ihL1621 v1637 v1638 (by omega) (by omega)
                              · refine g_iconst (by decide) (fun v1639 kv1639 => ?_)
                                refine g_goto ?_
                                refine g_iadd' (fun v1640 _ => ?_)
                                refine g_istore (l' := [(0, .ref 0), (1, .int a1), (2, .int a2), (3, .int v1603), (4, .int v1640), (5, .int v1608), (6, .int v1620)]) rfl rfl ?_
                                refine g_iinc (l' := (fun v1641 => [(0, .ref 0), (1, .int a1), (2, .int a2), (3, .int v1603), (4, .int v1640), (5, .int v1608), (6, .int v1641)])) rfl rfl (by decide) (by omega) (fun _ => rfl) (fun v1641 ev1641 => ?_)
                                refine g_goto ?_
                                exact ihL1621 v1640 v1641 (by omega) (by omega)
                      exact L1621 _ v1607 v1618 (by omega) (Nat.lt_succ_self _)
                exact L1611 _ v1605 v1606 H1399 hIH1399 hJH1399 e1400 (by omega) (Nat.lt_succ_self _)
              · exfalso; omega
set_option maxRecDepth 4000 in
set_option maxHeartbeats 4000000 in
/-- M.runsFirst -/
theorem s_219 (a1 : Int32) (ha1 : 0 ≤ a1.toInt ∧ a1.toInt ≤ 60) (H : mzH) (hI : gI SM H) (hJ : JN H) : gCall 219 [.ref 0, .int a1] H (gRv (fun H' => gI SM H' ∧ JM H' ∧ fZ H' 0 2 = fZ H 0 2)) := by
  obtain ⟨k0_2, ek0_2⟩ : ∃ z, z = fZ H 0 2 := ⟨_, rfl⟩
  have ik0_2 : k0_2.toInt = (fZ H 0 2).toInt := by rw [← ek0_2]
  have bk0_2 : 0 ≤ k0_2.toInt ∧ k0_2.toInt ≤ 900 := by rw [ek0_2]; exact fZ_of hI sm_0 rfl
  refine gG_call [(0, .ref 0), (1, .int a1)] ⟨rfl, rfl, trivial⟩ ?_
  show gG 3 zB_219 (mzBlk zB_219 0) [(0, .ref 0), (1, .int a1)] [] H 0 0 _
  refine g_aload_n rfl ?_
  refine g_invvv hI sm_0 rfl rfl rfl rfl (s_182 H hI hJ) (fun H93 r94 => ?_)
  obtain ⟨hIH93, hJH93, m95, m96, p97⟩ := r94
  have e98 : k0_2 = fZ H93 0 2 := ek0_2.trans (m95 0 2).symm
  refine g_iload_n rfl ?_
  refine g_istore_n (l' := [(0, .ref 0), (1, .int a1), (2, .int a1)]) rfl rfl ?_
  refine g_nop ?_
  have L102 : ∀ (N : Nat) (v99 : Int32) (H100 : mzH), gI SM H100 → JN H100 → k0_2 = fZ H100 0 2 → (0 ≤ v99.toInt ∧ v99.toInt ≤ 60) → (60 - v99.toInt).toNat < N → gG 3 zB_219 (mzBlk zB_219 1) [(0, .ref 0), (1, .int a1), (2, .int v99)] [] H100 0 0 (gRv (fun H' => gI SM H' ∧ JM H' ∧ fZ H' 0 2 = fZ H 0 2)) := by
    intro N
    induction N with
    | zero => intro v99 H100 hIH100 hJH100 e101 bv99 hmL102; exact absurd hmL102 (Nat.not_lt_zero _)
    | succ N ihL102 =>
      intro v99 H100 hIH100 hJH100 e101 bv99 hmL102
      refine g_iload_n rfl ?_
      refine g_aload_n rfl ?_
      refine g_invvi hIH100 sm_0 rfl rfl rfl rfl (s_180 H100 hIH100 hJH100) (fun v105 H103 r104 => ?_)
      obtain ⟨rfl, bv105, p106⟩ := r104
      refine g_if2_ge (fun c107 => ?_) (fun c107 => ?_)
      · refine g_aload_n rfl ?_
        refine g_sipush (by decide) (fun v108 kv108 => ?_)
        refine g_invvv hIH100 sm_0 rfl rfl rfl rfl (s_198 v108 H100 hIH100 hJH100) (fun H109 r110 => ?_)
        obtain ⟨hIH109, hJH109, w111, m112, m113, p114⟩ := r110
        have e115 : k0_2 = fZ H109 0 2 := e101.trans w111.symm
        exact g_ret ⟨rfl, hIH109, hJH109, (e115.symm.trans ek0_2)⟩
      · refine g_aload_n rfl ?_
        refine g_gfr hIH100 sm_0 rfl ?_
        refine g_iload_n rfl ?_
        refine g_iconst (by decide) (fun v116 kv116 => ?_)
        refine g_zastore hIH100 sm_17 (by omega) (by omega) (fun H117 eH117 hIH117 => ?_)
        have hJH117 : JN H117 := JN_sA (by decide) eH117 hJH100
        have e118 : k0_2 = fZ H117 0 2 := by rw [eH117, fZ_sA]; exact e101
        refine g_iinc (l' := (fun v119 => [(0, .ref 0), (1, .int a1), (2, .int v119)])) rfl rfl (by decide) (by omega) (fun _ => rfl) (fun v119 ev119 => ?_)
        refine g_goto ?_
        exact ihL102 v119 H117 hIH117 hJH117 e118 (by omega) (by omega)
  exact L102 _ a1 H93 hIH93 hJH93 e98 (by omega) (Nat.lt_succ_self _)
set_option maxRecDepth 4000 in
set_option maxHeartbeats 4000000 in
/-- M.known -/
theorem s_220 (a1 : Int32) (a2 : Int32) (H : mzH) (hI : gI SM H) (hJ : JN H) : gCall 220 [.ref 0, .int a1, .int a2] H (gRi (fun v H' => gI SM H' ∧ JN H' ∧ fZ H' 0 2 = fZ H 0 2)) := by
  obtain ⟨k0_2, ek0_2⟩ : ∃ z, z = fZ H 0 2 := ⟨_, rfl⟩
  have ik0_2 : k0_2.toInt = (fZ H 0 2).toInt := by rw [← ek0_2]
  have bk0_2 : 0 ≤ k0_2.toInt ∧ k0_2.toInt ≤ 900 := by rw [ek0_2]; exact fZ_of hI sm_0 rfl
  refine gG_call [(0, .ref 0), (1, .int a1), (2, .int a2)] ⟨rfl, rfl, rfl, trivial⟩ ?_
  show gG 3 zB_220 (mzBlk zB_220 0) [(0, .ref 0), (1, .int a1), (2, .int a2)] [] H 0 0 _
  refine g_aload_n rfl ?_
  refine g_iconst (by decide) (fun v97 kv97 => ?_)
  refine g_pfi hI sm_0 rfl (gz_any _) (fun H98 eH98 hIH98 => ?_)
  have hJH98 : JN H98 := JN_sF eH98 hJ
  have e99 : k0_2 = fZ H98 0 2 := by rw [eH98, fZ_sF_ne (by decide)]; exact ek0_2
  refine g_iload_n rfl ?_
  refine g_if_lt (fun c100 => ?_) (fun c100 => ?_)
  · refine g_iconst (by decide) (fun v101 kv101 => ?_)
    exact g_iret ⟨_, rfl, hIH98, hJH98, (e99.symm.trans ek0_2)⟩
  · refine g_iload_n rfl ?_
    refine g_aload_n rfl ?_
    refine g_invvi hIH98 sm_0 rfl rfl rfl rfl (s_180 H98 hIH98 hJH98) (fun v104 H102 r103 => ?_)
    obtain ⟨rfl, bv104, p105⟩ := r103
    refine g_if2_gt (fun c106 => ?_) (fun c106 => ?_)
    · refine g_iconst (by decide) (fun v107 kv107 => ?_)
      exact g_iret ⟨_, rfl, hIH98, hJH98, (e99.symm.trans ek0_2)⟩
    · refine g_iload_n rfl ?_
      refine g_invti rfl rfl rfl (s_205 a2 H98 hIH98 hJH98) (fun v110 H108 r109 => ?_)
      obtain ⟨rfl, bv110, p111⟩ := r109
      refine g_if_ne (fun c112 => ?_) (fun c112 => ?_)
      · refine g_aload_n rfl ?_
        refine g_iload_n rfl ?_
        refine g_invvv hIH98 sm_0 rfl rfl rfl rfl (s_219 a1 (by omega) H98 hIH98 hJH98) (fun H113 r114 => ?_)
        obtain ⟨hIH113, hJH113, w115⟩ := r114
        have e116 : k0_2 = fZ H113 0 2 := e99.trans w115.symm
        refine g_aload_n rfl ?_
        refine g_iload_n rfl ?_
        refine g_invvi hIH113 sm_0 rfl rfl rfl rfl (s_201 a2 (by omega) H113 hIH113 hJH113) (fun v119 H117 r118 => ?_)
        obtain ⟨rfl, bv119⟩ := r118
        exact g_iret ⟨_, rfl, hIH113, (JM_n hJH113), (e116.symm.trans ek0_2)⟩
      · refine g_nop ?_
        refine g_iconst (by decide) (fun v120 kv120 => ?_)
        exact g_iret ⟨_, rfl, hIH98, hJH98, (e99.symm.trans ek0_2)⟩
set_option maxRecDepth 4000 in
set_option maxHeartbeats 4000000 in
/-- M.changed -/
theorem s_221 (a1 : Int32) (H : mzH) (hI : gI SM H) (hJ : JN H) : gCall 221 [.ref 0, .int a1] H (gRi (fun v H' => gI SM H' ∧ JN H' ∧ fZ H' 0 2 = fZ H 0 2)) := by
  obtain ⟨k0_2, ek0_2⟩ : ∃ z, z = fZ H 0 2 := ⟨_, rfl⟩
  have ik0_2 : k0_2.toInt = (fZ H 0 2).toInt := by rw [← ek0_2]
  have bk0_2 : 0 ≤ k0_2.toInt ∧ k0_2.toInt ≤ 900 := by rw [ek0_2]; exact fZ_of hI sm_0 rfl
  refine gG_call [(0, .ref 0), (1, .int a1)] ⟨rfl, rfl, trivial⟩ ?_
  show gG 4 zB_221 (mzBlk zB_221 0) [(0, .ref 0), (1, .int a1)] [] H 0 0 _
  refine g_aload_n rfl ?_
  refine g_iconst (by decide) (fun v681 kv681 => ?_)
  refine g_pfi hI sm_0 rfl (gz_any _) (fun H682 eH682 hIH682 => ?_)
  have hJH682 : JN H682 := JN_sF eH682 hJ
  have e683 : k0_2 = fZ H682 0 2 := by rw [eH682, fZ_sF_ne (by decide)]; exact ek0_2
  refine g_iload_n rfl ?_
  refine g_if_lt (fun c684 => ?_) (fun c684 => ?_)
  · refine g_iconst (by decide) (fun v685 kv685 => ?_)
    exact g_iret ⟨_, rfl, hIH682, hJH682, (e683.symm.trans ek0_2)⟩
  · refine g_iload_n rfl ?_
    refine g_aload_n rfl ?_
    refine g_invvi hIH682 sm_0 rfl rfl rfl rfl (s_180 H682 hIH682 hJH682) (fun v688 H686 r687 => ?_)
    obtain ⟨rfl, bv688, p689⟩ := r687
    refine g_if2_lt (fun c690 => ?_) (fun c690 => ?_)
    · refine g_aload_n rfl ?_
      refine g_iload_n rfl ?_
      refine g_invvv hIH682 sm_0 rfl rfl rfl rfl (s_219 a1 (by omega) H682 hIH682 hJH682) (fun H691 r692 => ?_)
      obtain ⟨hIH691, hJH691, w693⟩ := r692
      have e694 : k0_2 = fZ H691 0 2 := e683.trans w693.symm
      refine g_iconst (by decide) (fun v695 kv695 => ?_)
      refine g_istore_n (l' := [(0, .ref 0), (1, .int a1), (2, .int v695)]) rfl rfl ?_
      refine g_nop ?_
      have L699 : ∀ (N : Nat) (v696 : Int32) (H697 : mzH), gI SM H697 → JM H697 → k0_2 = fZ H697 0 2 → (0 ≤ v696.toInt ∧ v696.toInt ≤ 40) → (40 - v696.toInt).toNat < N → gG 4 zB_221 (mzBlk zB_221 3) [(0, .ref 0), (1, .int a1), (2, .int v696)] [] H697 0 0 (gRi (fun v H' => gI SM H' ∧ JN H' ∧ fZ H' 0 2 = fZ H 0 2)) := by
        intro N
        induction N with
        | zero => intro v696 H697 hIH697 hJH697 e698 bv696 hmL699; exact absurd hmL699 (Nat.not_lt_zero _)
        | succ N ihL699 =>
          intro v696 H697 hIH697 hJH697 e698 bv696 hmL699
          refine g_iload_n rfl ?_
          refine g_bipush (by decide) (fun v700 kv700 => ?_)
          refine g_if2_ge (fun c701 => ?_) (fun c701 => ?_)
          · refine g_aload_n rfl ?_
            refine g_iload_n rfl ?_
            refine g_iconst (by decide) (fun v702 kv702 => ?_)
            refine g_iadd (by omega) (fun v703 ev703 => ?_)
            refine g_invvv hIH697 sm_0 rfl rfl rfl rfl (s_219 v703 (by omega) H697 hIH697 (JM_n hJH697)) (fun H704 r705 => ?_)
            obtain ⟨hIH704, hJH704, w706⟩ := r705
            have e707 : k0_2 = fZ H704 0 2 := e698.trans w706.symm
            refine g_iconst (by decide) (fun v708 kv708 => ?_)
            refine g_istore_n (l' := [(0, .ref 0), (1, .int a1), (2, .int v708)]) rfl rfl ?_
            refine g_iconst (by decide) (fun v709 kv709 => ?_)
            refine g_istore_n (l' := [(0, .ref 0), (1, .int a1), (2, .int v708), (3, .int v709)]) rfl rfl ?_
            refine g_nop ?_
            have L712 : ∀ (N : Nat) (v710 : Int32) (v711 : Int32), (0 ≤ v711.toInt ∧ v711.toInt ≤ 40) → (40 - v711.toInt).toNat < N → gG 4 zB_221 (mzBlk zB_221 5) [(0, .ref 0), (1, .int a1), (2, .int v710), (3, .int v711)] [] H704 0 0 (gRi (fun v H' => gI SM H' ∧ JN H' ∧ fZ H' 0 2 = fZ H 0 2)) := by
              intro N
              induction N with
              | zero => intro v710 v711 bv711 hmL712; exact absurd hmL712 (Nat.not_lt_zero _)
              | succ N ihL712 =>
                intro v710 v711 bv711 hmL712
                refine g_iload_n rfl ?_
                refine g_bipush (by decide) (fun v713 kv713 => ?_)
                refine g_if2_ge (fun c714 => ?_) (fun c714 => ?_)
                · refine g_iload_n rfl ?_
                  exact g_iret ⟨_, rfl, hIH704, (JM_n hJH704), (e707.symm.trans ek0_2)⟩
                · refine g_iload_n rfl ?_
                  refine g_aload_n rfl ?_
                  refine g_iload_n rfl ?_
                  refine g_invvi hIH704 sm_0 rfl rfl rfl rfl (s_201 v711 (by omega) H704 hIH704 hJH704) (fun v717 H715 r716 => ?_)
                  obtain ⟨rfl, bv717⟩ := r716
                  refine g_aload_n rfl ?_
                  refine g_gfr hIH704 sm_0 rfl ?_
                  refine g_iload_n rfl ?_
                  refine g_iaload hIH704 sm_24 rfl (by omega) (fun v718 ev718 lv718 uv718 => ?_)
                  refine g_if2_ne (fun c719 => ?_) (fun c719 => ?_)
                  · refine g_iconst (by decide) (fun v720 kv720 => ?_)
                    refine g_nop ?_
                    refine g_iadd' (fun v721 _ => ?_)
                    refine g_istore_n (l' := [(0, .ref 0), (1, .int a1), (2, .int v721), (3, .int v711)]) rfl rfl ?_
                    refine g_iinc (l' := (fun v722 => [(0, .ref 0), (1, .int a1), (2, .int v721), (3, .int v722)])) rfl rfl (by decide) (by omega) (fun _ => rfl) (fun v722 ev722 => ?_)
                    refine g_goto ?_
                    exact ihL712 v721 v722 (by omega) (by omega)
                  · refine g_iconst (by decide) (fun v723 kv723 => ?_)
                    refine g_goto ?_
                    refine g_iadd (by have := gz_any v710; omega) (fun v724 ev724 => ?_)
                    refine g_istore_n (l' := [(0, .ref 0), (1, .int a1), (2, .int v724), (3, .int v711)]) rfl rfl ?_
                    refine g_iinc (l' := (fun v725 => [(0, .ref 0), (1, .int a1), (2, .int v724), (3, .int v725)])) rfl rfl (by decide) (by omega) (fun _ => rfl) (fun v725 ev725 => ?_)
                    refine g_goto ?_
                    exact ihL712 v724 v725 (by omega) (by omega)
            exact L712 _ v708 v709 (by omega) (Nat.lt_succ_self _)
          · refine g_aload_n rfl ?_
            refine g_gfr hIH697 sm_0 rfl ?_
            refine g_iload_n rfl ?_
            refine g_aload_n rfl ?_
            refine g_iload_n rfl ?_
            refine g_invvi hIH697 sm_0 rfl rfl rfl rfl (s_201 v696 (by omega) H697 hIH697 hJH697) (fun v728 H726 r727 => ?_)
            obtain ⟨rfl, bv728⟩ := r727
            refine g_iastore hIH697 sm_24 (by omega) (gz_any _) (fun H729 eH729 hIH729 => ?_)
            have hJH729 : JM H729 := JM_sA (by decide) eH729 hJH697
            have e730 : k0_2 = fZ H729 0 2 := by rw [eH729, fZ_sA]; exact e698
            refine g_iinc (l' := (fun v731 => [(0, .ref 0), (1, .int a1), (2, .int v731)])) rfl rfl (by decide) (by omega) (fun _ => rfl) (fun v731 ev731 => ?_)
            refine g_goto ?_
            exact ihL699 v731 H729 hIH729 hJH729 e730 (by omega) (by omega)
      exact L699 _ v695 H691 hIH691 hJH691 e694 (by omega) (Nat.lt_succ_self _)
    · refine g_nop ?_
      refine g_iconst (by decide) (fun v732 kv732 => ?_)
      exact g_iret ⟨_, rfl, hIH682, hJH682, (e683.symm.trans ek0_2)⟩
set_option maxRecDepth 4000 in
set_option maxHeartbeats 4000000 in
/-- M.runsWithout -/
theorem s_222 (a1 : Int32) (ha1 : -1 ≤ a1.toInt ∧ a1.toInt ≤ 59) (a2 : Int32) (ha2 : -1 ≤ a2.toInt ∧ a2.toInt ≤ 59) (H : mzH) (hI : gI SM H) (hJ : JN H) : gCall 222 [.ref 0, .int a1, .int a2] H (gRv (fun H' => gI SM H' ∧ JM H' ∧ fZ H' 0 2 = fZ H 0 2)) := by
  obtain ⟨k0_2, ek0_2⟩ : ∃ z, z = fZ H 0 2 := ⟨_, rfl⟩
  have ik0_2 : k0_2.toInt = (fZ H 0 2).toInt := by rw [← ek0_2]
  have bk0_2 : 0 ≤ k0_2.toInt ∧ k0_2.toInt ≤ 900 := by rw [ek0_2]; exact fZ_of hI sm_0 rfl
  refine gG_call [(0, .ref 0), (1, .int a1), (2, .int a2)] ⟨rfl, rfl, rfl, trivial⟩ ?_
  show gG 3 zB_222 (mzBlk zB_222 0) [(0, .ref 0), (1, .int a1), (2, .int a2)] [] H 0 0 _
  refine g_aload_n rfl ?_
  refine g_invvv hI sm_0 rfl rfl rfl rfl (s_182 H hI hJ) (fun H213 r214 => ?_)
  obtain ⟨hIH213, hJH213, m215, m216, p217⟩ := r214
  have e218 : k0_2 = fZ H213 0 2 := ek0_2.trans (m215 0 2).symm
  refine g_iload_n rfl ?_
  refine g_iconst (by decide) (fun v219 kv219 => ?_)
  refine g_if2_eq (fun c220 => ?_) (fun c220 => ?_)
  · refine g_iload_n rfl ?_
    refine g_iconst (by decide) (fun v221 kv221 => ?_)
    refine g_if2_eq (fun c222 => ?_) (fun c222 => ?_)
    · refine g_aload_n rfl ?_
      refine g_sipush (by decide) (fun v223 kv223 => ?_)
      refine g_invvv hIH213 sm_0 rfl rfl rfl rfl (s_198 v223 H213 hIH213 hJH213) (fun H224 r225 => ?_)
      obtain ⟨hIH224, hJH224, w226, m227, m228, p229⟩ := r225
      have e230 : k0_2 = fZ H224 0 2 := e218.trans w226.symm
      exact g_ret ⟨rfl, hIH224, hJH224, (e230.symm.trans ek0_2)⟩
    · refine g_aload_n rfl ?_
      refine g_gfr hIH213 sm_0 rfl ?_
      refine g_iload_n rfl ?_
      refine g_iconst (by decide) (fun v231 kv231 => ?_)
      refine g_zastore hIH213 sm_17 (by omega) (by omega) (fun H232 eH232 hIH232 => ?_)
      have hJH232 : JN H232 := JN_sA (by decide) eH232 hJH213
      have e233 : k0_2 = fZ H232 0 2 := by rw [eH232, fZ_sA]; exact e218
      refine g_nop ?_
      refine g_aload_n rfl ?_
      refine g_sipush (by decide) (fun v234 kv234 => ?_)
      refine g_invvv hIH232 sm_0 rfl rfl rfl rfl (s_198 v234 H232 hIH232 hJH232) (fun H235 r236 => ?_)
      obtain ⟨hIH235, hJH235, w237, m238, m239, p240⟩ := r236
      have e241 : k0_2 = fZ H235 0 2 := e233.trans w237.symm
      exact g_ret ⟨rfl, hIH235, hJH235, (e241.symm.trans ek0_2)⟩
  · refine g_aload_n rfl ?_
    refine g_gfr hIH213 sm_0 rfl ?_
    refine g_iload_n rfl ?_
    refine g_iconst (by decide) (fun v242 kv242 => ?_)
    refine g_zastore hIH213 sm_17 (by omega) (by omega) (fun H243 eH243 hIH243 => ?_)
    have hJH243 : JN H243 := JN_sA (by decide) eH243 hJH213
    have e244 : k0_2 = fZ H243 0 2 := by rw [eH243, fZ_sA]; exact e218
    refine g_nop ?_
    refine g_iload_n rfl ?_
    refine g_iconst (by decide) (fun v245 kv245 => ?_)
    refine g_if2_eq (fun c246 => ?_) (fun c246 => ?_)
    · refine g_aload_n rfl ?_
      refine g_sipush (by decide) (fun v247 kv247 => ?_)
      refine g_invvv hIH243 sm_0 rfl rfl rfl rfl (s_198 v247 H243 hIH243 hJH243) (fun H248 r249 => ?_)
      obtain ⟨hIH248, hJH248, w250, m251, m252, p253⟩ := r249
      have e254 : k0_2 = fZ H248 0 2 := e244.trans w250.symm
      exact g_ret ⟨rfl, hIH248, hJH248, (e254.symm.trans ek0_2)⟩
    · refine g_aload_n rfl ?_
      refine g_gfr hIH243 sm_0 rfl ?_
      refine g_iload_n rfl ?_
      refine g_iconst (by decide) (fun v255 kv255 => ?_)
      refine g_zastore hIH243 sm_17 (by omega) (by omega) (fun H256 eH256 hIH256 => ?_)
      have hJH256 : JN H256 := JN_sA (by decide) eH256 hJH243
      have e257 : k0_2 = fZ H256 0 2 := by rw [eH256, fZ_sA]; exact e244
      refine g_nop ?_
      refine g_aload_n rfl ?_
      refine g_sipush (by decide) (fun v258 kv258 => ?_)
      refine g_invvv hIH256 sm_0 rfl rfl rfl rfl (s_198 v258 H256 hIH256 hJH256) (fun H259 r260 => ?_)
      obtain ⟨hIH259, hJH259, w261, m262, m263, p264⟩ := r260
      have e265 : k0_2 = fZ H259 0 2 := e257.trans w261.symm
      exact g_ret ⟨rfl, hIH259, hJH259, (e265.symm.trans ek0_2)⟩
set_option maxRecDepth 4000 in
set_option maxHeartbeats 4000000 in
/-- M.without -/
theorem s_223 (a1 : Int32) (a2 : Int32) (H : mzH) (hI : gI SM H) (hJ : JN H) : gCall 223 [.ref 0, .int a1, .int a2] H (gRi (fun v H' => gI SM H' ∧ JN H' ∧ fZ H' 0 2 = fZ H 0 2)) := by
  obtain ⟨k0_2, ek0_2⟩ : ∃ z, z = fZ H 0 2 := ⟨_, rfl⟩
  have ik0_2 : k0_2.toInt = (fZ H 0 2).toInt := by rw [← ek0_2]
  have bk0_2 : 0 ≤ k0_2.toInt ∧ k0_2.toInt ≤ 900 := by rw [ek0_2]; exact fZ_of hI sm_0 rfl
  refine gG_call [(0, .ref 0), (1, .int a1), (2, .int a2)] ⟨rfl, rfl, rfl, trivial⟩ ?_
  show gG 3 zB_223 (mzBlk zB_223 0) [(0, .ref 0), (1, .int a1), (2, .int a2)] [] H 0 0 _
  refine g_aload_n rfl ?_
  refine g_iconst (by decide) (fun v101 kv101 => ?_)
  refine g_pfi hI sm_0 rfl (gz_any _) (fun H102 eH102 hIH102 => ?_)
  have hJH102 : JN H102 := JN_sF eH102 hJ
  have e103 : k0_2 = fZ H102 0 2 := by rw [eH102, fZ_sF_ne (by decide)]; exact ek0_2
  refine g_iload_n rfl ?_
  refine g_if_lt (fun c104 => ?_) (fun c104 => ?_)
  · refine g_iconst (by decide) (fun v105 kv105 => ?_)
    exact g_iret ⟨_, rfl, hIH102, hJH102, (e103.symm.trans ek0_2)⟩
  · refine g_iload_n rfl ?_
    refine g_aload_n rfl ?_
    refine g_invvi hIH102 sm_0 rfl rfl rfl rfl (s_180 H102 hIH102 hJH102) (fun v108 H106 r107 => ?_)
    obtain ⟨rfl, bv108, p109⟩ := r107
    refine g_if2_ge (fun c110 => ?_) (fun c110 => ?_)
    · refine g_iconst (by decide) (fun v111 kv111 => ?_)
      exact g_iret ⟨_, rfl, hIH102, hJH102, (e103.symm.trans ek0_2)⟩
    · refine g_iload_n rfl ?_
      refine g_invti rfl rfl rfl (s_205 a2 H102 hIH102 hJH102) (fun v114 H112 r113 => ?_)
      obtain ⟨rfl, bv114, p115⟩ := r113
      refine g_if_ne (fun c116 => ?_) (fun c116 => ?_)
      · refine g_aload_n rfl ?_
        refine g_iload_n rfl ?_
        refine g_iconst (by decide) (fun v117 kv117 => ?_)
        refine g_invvv hIH102 sm_0 rfl rfl rfl rfl (s_222 a1 (by omega) v117 (by omega) H102 hIH102 hJH102) (fun H118 r119 => ?_)
        obtain ⟨hIH118, hJH118, w120⟩ := r119
        have e121 : k0_2 = fZ H118 0 2 := e103.trans w120.symm
        refine g_aload_n rfl ?_
        refine g_iload_n rfl ?_
        refine g_invvi hIH118 sm_0 rfl rfl rfl rfl (s_201 a2 (by omega) H118 hIH118 hJH118) (fun v124 H122 r123 => ?_)
        obtain ⟨rfl, bv124⟩ := r123
        exact g_iret ⟨_, rfl, hIH118, (JM_n hJH118), (e121.symm.trans ek0_2)⟩
      · refine g_nop ?_
        refine g_iconst (by decide) (fun v125 kv125 => ?_)
        exact g_iret ⟨_, rfl, hIH102, hJH102, (e103.symm.trans ek0_2)⟩
set_option maxRecDepth 4000 in
set_option maxHeartbeats 4000000 in
/-- M.refusedNow -/
theorem s_224 (H : mzH) (hI : gI SM H) (hJ : JN H) : gCall 224 [.ref 0] H (gRi (fun v H' => H = H')) := by
  refine gG_call [(0, .ref 0)] ⟨rfl, trivial⟩ ?_
  show gG 3 zB_224 (mzBlk zB_224 0) [(0, .ref 0)] [] H 0 0 _
  refine g_iconst (by decide) (fun v399 kv399 => ?_)
  refine g_istore_n (l' := [(0, .ref 0), (1, .int v399)]) rfl rfl ?_
  refine g_iconst (by decide) (fun v400 kv400 => ?_)
  refine g_istore_n (l' := [(0, .ref 0), (1, .int v399), (2, .int v400)]) rfl rfl ?_
  refine g_nop ?_
  have L403 : ∀ (N : Nat) (v401 : Int32) (v402 : Int32), (0 ≤ v402.toInt ∧ v402.toInt ≤ 60) → (60 - v402.toInt).toNat < N → gG 3 zB_224 (mzBlk zB_224 1) [(0, .ref 0), (1, .int v401), (2, .int v402)] [] H 0 0 (gRi (fun v H' => H = H')) := by
    intro N
    induction N with
    | zero => intro v401 v402 bv402 hmL403; exact absurd hmL403 (Nat.not_lt_zero _)
    | succ N ihL403 =>
      intro v401 v402 bv402 hmL403
      refine g_iload_n rfl ?_
      refine g_aload_n rfl ?_
      refine g_gfi hI sm_0 rfl (fun v404 ev404 lv404 uv404 => ?_)
      refine g_if2_ge (fun c405 => ?_) (fun c405 => ?_)
      · refine g_iload_n rfl ?_
        exact g_iret ⟨_, rfl, rfl⟩
      · refine g_iload_n rfl ?_
        refine g_aload_n rfl ?_
        refine g_gfr hI sm_0 rfl ?_
        refine g_aload_n rfl ?_
        refine g_gfr hI sm_0 rfl ?_
        refine g_iload_n rfl ?_
        refine g_iaload hI sm_19 rfl (by omega) (fun v406 ev406 lv406 uv406 => ?_)
        refine g_iaload hI sm_20 rfl (by omega) (fun v407 ev407 lv407 uv407 => ?_)
        refine g_if_ne (fun c408 => ?_) (fun c408 => ?_)
        · refine g_iconst (by decide) (fun v409 kv409 => ?_)
          refine g_nop ?_
          refine g_iadd' (fun v410 _ => ?_)
          refine g_istore_n (l' := [(0, .ref 0), (1, .int v410), (2, .int v402)]) rfl rfl ?_
          refine g_iinc (l' := (fun v411 => [(0, .ref 0), (1, .int v410), (2, .int v411)])) rfl rfl (by decide) (by omega) (fun _ => rfl) (fun v411 ev411 => ?_)
          refine g_goto ?_
          exact ihL403 v410 v411 (by omega) (by omega)
        · refine g_iconst (by decide) (fun v412 kv412 => ?_)
          refine g_goto ?_
          refine g_iadd (by have := gz_any v401; omega) (fun v413 ev413 => ?_)
          refine g_istore_n (l' := [(0, .ref 0), (1, .int v413), (2, .int v402)]) rfl rfl ?_
          refine g_iinc (l' := (fun v414 => [(0, .ref 0), (1, .int v413), (2, .int v414)])) rfl rfl (by decide) (by omega) (fun _ => rfl) (fun v414 ev414 => ?_)
          refine g_goto ?_
          exact ihL403 v413 v414 (by omega) (by omega)
  exact L403 _ v399 v400 (by omega) (Nat.lt_succ_self _)
set_option maxRecDepth 4000 in
set_option maxHeartbeats 4000000 in
/-- M.refused -/
theorem s_225 (a1 : Int32) (H : mzH) (hI : gI SM H) (hJ : JN H) : gCall 225 [.ref 0, .int a1] H (gRi (fun v H' => gI SM H' ∧ JN H' ∧ fZ H' 0 2 = fZ H 0 2)) := by
  obtain ⟨k0_2, ek0_2⟩ : ∃ z, z = fZ H 0 2 := ⟨_, rfl⟩
  have ik0_2 : k0_2.toInt = (fZ H 0 2).toInt := by rw [← ek0_2]
  have bk0_2 : 0 ≤ k0_2.toInt ∧ k0_2.toInt ≤ 900 := by rw [ek0_2]; exact fZ_of hI sm_0 rfl
  refine gG_call [(0, .ref 0), (1, .int a1)] ⟨rfl, rfl, trivial⟩ ?_
  show gG 4 zB_225 (mzBlk zB_225 0) [(0, .ref 0), (1, .int a1)] [] H 0 0 _
  refine g_aload_n rfl ?_
  refine g_iconst (by decide) (fun v569 kv569 => ?_)
  refine g_pfi hI sm_0 rfl (gz_any _) (fun H570 eH570 hIH570 => ?_)
  have hJH570 : JN H570 := JN_sF eH570 hJ
  have e571 : k0_2 = fZ H570 0 2 := by rw [eH570, fZ_sF_ne (by decide)]; exact ek0_2
  refine g_iload_n rfl ?_
  refine g_iconst (by decide) (fun v572 kv572 => ?_)
  refine g_if2_lt (fun c573 => ?_) (fun c573 => ?_)
  · refine g_bipush (by decide) (fun v574 kv574 => ?_)
    exact g_iret ⟨_, rfl, hIH570, hJH570, (e571.symm.trans ek0_2)⟩
  · refine g_iload_n rfl ?_
    refine g_bipush (by decide) (fun v575 kv575 => ?_)
    refine g_if2_le (fun c576 => ?_) (fun c576 => ?_)
    · refine g_aload_n rfl ?_
      refine g_invvv hIH570 sm_0 rfl rfl rfl rfl (s_199 H570 hIH570 hJH570) (fun H577 r578 => ?_)
      obtain ⟨hIH577, hJH577, w579, m580, p581⟩ := r578
      have e582 : k0_2 = fZ H577 0 2 := e571.trans w579.symm
      refine g_iload_n rfl ?_
      refine g_iconst (by decide) (fun v583 kv583 => ?_)
      refine g_if2_ne (fun c584 => ?_) (fun c584 => ?_)
      · refine g_iconst (by decide) (fun v585 kv585 => ?_)
        refine g_istore_n (l' := [(0, .ref 0), (1, .int a1), (2, .int v585)]) rfl rfl ?_
        refine g_iconst (by decide) (fun v586 kv586 => ?_)
        refine g_istore_n (l' := [(0, .ref 0), (1, .int a1), (2, .int v585), (3, .int v586)]) rfl rfl ?_
        refine g_nop ?_
        have L589 : ∀ (N : Nat) (v587 : Int32) (v588 : Int32), (0 ≤ v588.toInt ∧ v588.toInt ≤ 60) → (60 - v588.toInt).toNat < N → gG 4 zB_225 (mzBlk zB_225 4) [(0, .ref 0), (1, .int a1), (2, .int v587), (3, .int v588)] [] H577 0 0 (gRi (fun v H' => gI SM H' ∧ JN H' ∧ fZ H' 0 2 = fZ H 0 2)) := by
          intro N
          induction N with
          | zero => intro v587 v588 bv588 hmL589; exact absurd hmL589 (Nat.not_lt_zero _)
          | succ N ihL589 =>
            intro v587 v588 bv588 hmL589
            refine g_iload_n rfl ?_
            refine g_aload_n rfl ?_
            refine g_invvi hIH577 sm_0 rfl rfl rfl rfl (s_180 H577 hIH577 (JM_n hJH577)) (fun v592 H590 r591 => ?_)
            obtain ⟨rfl, bv592, p593⟩ := r591
            refine g_if2_ge (fun c594 => ?_) (fun c594 => ?_)
            · refine g_iload_n rfl ?_
              exact g_iret ⟨_, rfl, hIH577, (JM_n hJH577), (e582.symm.trans ek0_2)⟩
            · refine g_iload_n rfl ?_
              refine g_aload_n rfl ?_
              refine g_gfr hIH577 sm_0 rfl ?_
              refine g_iload_n rfl ?_
              refine g_iaload hIH577 sm_20 rfl (by omega) (fun v595 ev595 lv595 uv595 => ?_)
              refine g_iload_n rfl ?_
              refine g_if2_ne (fun c596 => ?_) (fun c596 => ?_)
              · refine g_iconst (by decide) (fun v597 kv597 => ?_)
                refine g_nop ?_
                refine g_iadd (by have := gz_any v587; omega) (fun v598 ev598 => ?_)
                refine g_istore_n (l' := [(0, .ref 0), (1, .int a1), (2, .int v598), (3, .int v588)]) rfl rfl ?_
                refine g_iinc (l' := (fun v599 => [(0, .ref 0), (1, .int a1), (2, .int v598), (3, .int v599)])) rfl rfl (by decide) (by omega) (fun _ => rfl) (fun v599 ev599 => ?_)
                refine g_goto ?_
                exact ihL589 v598 v599 (by omega) (by omega)
              · refine g_iconst (by decide) (fun v600 kv600 => ?_)
                refine g_goto ?_
                refine g_iadd' (fun v601 _ => ?_)
                refine g_istore_n (l' := [(0, .ref 0), (1, .int a1), (2, .int v601), (3, .int v588)]) rfl rfl ?_
                refine g_iinc (l' := (fun v602 => [(0, .ref 0), (1, .int a1), (2, .int v601), (3, .int v602)])) rfl rfl (by decide) (by omega) (fun _ => rfl) (fun v602 ev602 => ?_)
                refine g_goto ?_
                exact ihL589 v601 v602 (by omega) (by omega)
        exact L589 _ v585 v586 (by omega) (Nat.lt_succ_self _)
      · refine g_aload_n rfl ?_
        refine g_invvi hIH577 sm_0 rfl rfl rfl rfl (s_224 H577 hIH577 (JM_n hJH577)) (fun v605 H603 r604 => ?_)
        obtain rfl := r604
        exact g_iret ⟨_, rfl, hIH577, (JM_n hJH577), (e582.symm.trans ek0_2)⟩
    · refine g_nop ?_
      refine g_bipush (by decide) (fun v606 kv606 => ?_)
      exact g_iret ⟨_, rfl, hIH570, hJH570, (e571.symm.trans ek0_2)⟩
set_option maxRecDepth 4000 in
set_option maxHeartbeats 4000000 in
/-- M.blames -/
theorem s_226 (a1 : Int32) (ha1 : 0 ≤ a1.toInt ∧ a1.toInt ≤ 1) (H : mzH) (hI : gI SM H) (hJ : JN H) : gCall 226 [.ref 0, .int a1] H (gRv (fun H' => gI SM H' ∧ JN H' ∧ fZ H' 0 2 = fZ H 0 2)) := by
  obtain ⟨k0_2, ek0_2⟩ : ∃ z, z = fZ H 0 2 := ⟨_, rfl⟩
  have ik0_2 : k0_2.toInt = (fZ H 0 2).toInt := by rw [← ek0_2]
  have bk0_2 : 0 ≤ k0_2.toInt ∧ k0_2.toInt ≤ 900 := by rw [ek0_2]; exact fZ_of hI sm_0 rfl
  refine gG_call [(0, .ref 0), (1, .int a1)] ⟨rfl, rfl, trivial⟩ ?_
  show gG 5 zB_226 (mzBlk zB_226 0) [(0, .ref 0), (1, .int a1)] [] H 0 0 _
  refine g_aload_n rfl ?_
  refine g_iconst (by decide) (fun v1054 kv1054 => ?_)
  refine g_pfi hI sm_0 rfl (gz_any _) (fun H1055 eH1055 hIH1055 => ?_)
  have hJH1055 : JN H1055 := JN_sF eH1055 hJ
  have e1056 : k0_2 = fZ H1055 0 2 := by rw [eH1055, fZ_sF_ne (by decide)]; exact ek0_2
  refine g_iconst (by decide) (fun v1057 kv1057 => ?_)
  refine g_istore_n (l' := [(0, .ref 0), (1, .int a1), (2, .int v1057)]) rfl rfl ?_
  refine g_nop ?_
  have L1061 : ∀ (N : Nat) (v1058 : Int32) (H1059 : mzH), gI SM H1059 → JN H1059 → k0_2 = fZ H1059 0 2 → (0 ≤ v1058.toInt ∧ v1058.toInt ≤ 60) → (60 - v1058.toInt).toNat < N → gG 5 zB_226 (mzBlk zB_226 1) [(0, .ref 0), (1, .int a1), (2, .int v1058)] [] H1059 0 0 (gRv (fun H' => gI SM H' ∧ JN H' ∧ fZ H' 0 2 = fZ H 0 2)) := by
    intro N
    induction N with
    | zero => intro v1058 H1059 hIH1059 hJH1059 e1060 bv1058 hmL1061; exact absurd hmL1061 (Nat.not_lt_zero _)
    | succ N ihL1061 =>
      intro v1058 H1059 hIH1059 hJH1059 e1060 bv1058 hmL1061
      refine g_iload_n rfl ?_
      refine g_aload_n rfl ?_
      refine g_invvi hIH1059 sm_0 rfl rfl rfl rfl (s_180 H1059 hIH1059 hJH1059) (fun v1064 H1062 r1063 => ?_)
      obtain ⟨rfl, bv1064, p1065⟩ := r1063
      refine g_if2_ge (fun c1066 => ?_) (fun c1066 => ?_)
      · exact g_ret ⟨rfl, hIH1059, hJH1059, (e1060.symm.trans ek0_2)⟩
      · refine g_iload_n rfl ?_
        refine g_iconst (by decide) (fun v1067 kv1067 => ?_)
        refine g_iadd (by omega) (fun v1068 ev1068 => ?_)
        refine g_istore_n (l' := [(0, .ref 0), (1, .int a1), (2, .int v1058), (3, .int v1068)]) rfl rfl ?_
        refine g_nop ?_
        have L1072 : ∀ (N : Nat) (v1069 : Int32) (H1070 : mzH), gI SM H1070 → JN H1070 → k0_2 = fZ H1070 0 2 → (1 ≤ v1069.toInt ∧ v1069.toInt ≤ 61) → (61 - v1069.toInt).toNat < N → gG 5 zB_226 (mzBlk zB_226 2) [(0, .ref 0), (1, .int a1), (2, .int v1058), (3, .int v1069)] [] H1070 0 0 (gRv (fun H' => gI SM H' ∧ JN H' ∧ fZ H' 0 2 = fZ H 0 2)) := by
          intro N
          induction N with
          | zero => intro v1069 H1070 hIH1070 hJH1070 e1071 bv1069 hmL1072; exact absurd hmL1072 (Nat.not_lt_zero _)
          | succ N ihL1072 =>
            intro v1069 H1070 hIH1070 hJH1070 e1071 bv1069 hmL1072
            refine g_iload_n rfl ?_
            refine g_iload_n rfl ?_
            refine g_if_eq (fun c1073 => ?_) (fun c1073 => ?_)
            · refine g_iload_n rfl ?_
              refine g_iconst (by decide) (fun v1074 kv1074 => ?_)
              refine g_iadd (by omega) (fun v1075 ev1075 => ?_)
              refine g_nop ?_
              refine g_if2_ge (fun c1076 => ?_) (fun c1076 => ?_)
              · refine g_iinc (l' := (fun v1077 => [(0, .ref 0), (1, .int a1), (2, .int v1077), (3, .int v1069)])) rfl rfl (by decide) (by omega) (fun _ => rfl) (fun v1077 ev1077 => ?_)
                refine g_goto ?_
                refine gG_pick [0, 1, 2] (l' := [(0, .ref 0), (1, .int a1), (2, .int v1077)]) rfl ?_
                exact ihL1061 v1077 H1070 hIH1070 hJH1070 e1071 (by omega) (by omega)
              · refine g_aload_n rfl ?_
                refine g_iload_n rfl ?_
                refine g_iload_n rfl ?_
                refine g_if_eq (fun c1078 => ?_) (fun c1078 => ?_)
                · refine g_iconst (by decide) (fun v1079 kv1079 => ?_)
                  refine g_nop ?_
                  refine g_invvv hIH1070 sm_0 rfl rfl rfl rfl (s_222 v1058 (by omega) v1079 (by omega) H1070 hIH1070 hJH1070) (fun H1080 r1081 => ?_)
                  obtain ⟨hIH1080, hJH1080, w1082⟩ := r1081
                  have e1083 : k0_2 = fZ H1080 0 2 := e1071.trans w1082.symm
                  refine g_aload_n rfl ?_
                  refine g_invvi hIH1080 sm_0 rfl rfl rfl rfl (s_224 H1080 hIH1080 (JM_n hJH1080)) (fun v1086 H1084 r1085 => ?_)
                  obtain rfl := r1085
                  refine g_istore (l' := [(0, .ref 0), (1, .int a1), (2, .int v1058), (3, .int v1069), (4, .int v1086)]) rfl rfl ?_
                  refine g_aload_n rfl ?_
                  refine g_gfi hIH1080 sm_0 rfl (fun v1087 ev1087 lv1087 uv1087 => ?_)
                  refine g_iconst (by decide) (fun v1088 kv1088 => ?_)
                  refine g_if2_eq (fun c1089 => ?_) (fun c1089 => ?_)
                  · refine g_aload_n rfl ?_
                    refine g_iload_n rfl ?_
                    refine g_pfi hIH1080 sm_0 rfl (gz_any _) (fun H1090 eH1090 hIH1090 => ?_)
                    have hJH1090 : JM H1090 := JM_sF eH1090 hJH1080
                    have e1091 : k0_2 = fZ H1090 0 2 := by rw [eH1090, fZ_sF_ne (by decide)]; exact e1083
                    refine g_aload_n rfl ?_
                    refine g_iload_n rfl ?_
                    refine g_pfi hIH1090 sm_0 rfl (gz_any _) (fun H1092 eH1092 hIH1092 => ?_)
                    have hJH1092 : JM H1092 := JM_sF eH1092 hJH1090
                    have e1093 : k0_2 = fZ H1092 0 2 := by rw [eH1092, fZ_sF_ne (by decide)]; exact e1091
                    refine g_aload_n rfl ?_
                    refine g_iload rfl ?_
                    refine g_pfi hIH1092 sm_0 rfl (gz_any _) (fun H1094 eH1094 hIH1094 => ?_)
                    have hJH1094 : JM H1094 := JM_sF eH1094 hJH1092
                    have e1095 : k0_2 = fZ H1094 0 2 := by rw [eH1094, fZ_sF_ne (by decide)]; exact e1093
                    refine g_nop ?_
                    refine g_iinc (l' := (fun v1096 => [(0, .ref 0), (1, .int a1), (2, .int v1058), (3, .int v1096), (4, .int v1086)])) rfl rfl (by decide) (by omega) (fun _ => rfl) (fun v1096 ev1096 => ?_)
                    refine g_goto ?_
                    refine gG_pick [0, 1, 2, 3] (l' := [(0, .ref 0), (1, .int a1), (2, .int v1058), (3, .int v1096)]) rfl ?_
                    exact ihL1072 v1096 H1094 hIH1094 (JM_n hJH1094) e1095 (by omega) (by omega)
                  · refine g_iload rfl ?_
                    refine g_aload_n rfl ?_
                    refine g_gfi hIH1080 sm_0 rfl (fun v1097 ev1097 lv1097 uv1097 => ?_)
                    refine g_if2_lt (fun c1098 => ?_) (fun c1098 => ?_)
                    · refine g_aload_n rfl ?_
                      refine g_iload_n rfl ?_
                      refine g_pfi hIH1080 sm_0 rfl (gz_any _) (fun H1099 eH1099 hIH1099 => ?_)
                      have hJH1099 : JM H1099 := JM_sF eH1099 hJH1080
                      have e1100 : k0_2 = fZ H1099 0 2 := by rw [eH1099, fZ_sF_ne (by decide)]; exact e1083
                      refine g_aload_n rfl ?_
                      refine g_iload_n rfl ?_
                      refine g_pfi hIH1099 sm_0 rfl (gz_any _) (fun H1101 eH1101 hIH1101 => ?_)
                      have hJH1101 : JM H1101 := JM_sF eH1101 hJH1099
                      have e1102 : k0_2 = fZ H1101 0 2 := by rw [eH1101, fZ_sF_ne (by decide)]; exact e1100
                      refine g_aload_n rfl ?_
                      refine g_iload rfl ?_
                      refine g_pfi hIH1101 sm_0 rfl (gz_any _) (fun H1103 eH1103 hIH1103 => ?_)
                      have hJH1103 : JM H1103 := JM_sF eH1103 hJH1101
                      have e1104 : k0_2 = fZ H1103 0 2 := by rw [eH1103, fZ_sF_ne (by decide)]; exact e1102
                      refine g_nop ?_
                      refine g_iinc (l' := (fun v1105 => [(0, .ref 0), (1, .int a1), (2, .int v1058), (3, .int v1105), (4, .int v1086)])) rfl rfl (by decide) (by omega) (fun _ => rfl) (fun v1105 ev1105 => ?_)
                      refine g_goto ?_
                      refine gG_pick [0, 1, 2, 3] (l' := [(0, .ref 0), (1, .int a1), (2, .int v1058), (3, .int v1105)]) rfl ?_
                      exact ihL1072 v1105 H1103 hIH1103 (JM_n hJH1103) e1104 (by omega) (by omega)
                    · refine g_goto ?_
                      refine g_iinc (l' := (fun v1106 => [(0, .ref 0), (1, .int a1), (2, .int v1058), (3, .int v1106), (4, .int v1086)])) rfl rfl (by decide) (by omega) (fun _ => rfl) (fun v1106 ev1106 => ?_)
                      refine g_goto ?_
                      refine gG_pick [0, 1, 2, 3] (l' := [(0, .ref 0), (1, .int a1), (2, .int v1058), (3, .int v1106)]) rfl ?_
                      exact ihL1072 v1106 H1080 hIH1080 (JM_n hJH1080) e1083 (by omega) (by omega)
                · exfalso; omega
            · refine g_aload_n rfl ?_
              refine g_invvi hIH1070 sm_0 rfl rfl rfl rfl (s_180 H1070 hIH1070 hJH1070) (fun v1109 H1107 r1108 => ?_)
              obtain ⟨rfl, bv1109, p1110⟩ := r1108
              refine g_goto ?_
              refine g_if2_ge (fun c1111 => ?_) (fun c1111 => ?_)
              · refine g_iinc (l' := (fun v1112 => [(0, .ref 0), (1, .int a1), (2, .int v1112), (3, .int v1069)])) rfl rfl (by decide) (by omega) (fun _ => rfl) (fun v1112 ev1112 => ?_)
                refine g_goto ?_
                refine gG_pick [0, 1, 2] (l' := [(0, .ref 0), (1, .int a1), (2, .int v1112)]) rfl ?_
                exact ihL1061 v1112 H1070 hIH1070 hJH1070 e1071 (by omega) (by omega)
              · refine g_aload_n rfl ?_
                refine g_iload_n rfl ?_
                refine g_iload_n rfl ?_
                refine g_if_eq (fun c1113 => ?_) (fun c1113 => ?_)
                · exfalso; omega
                · refine g_iload_n rfl ?_
                  refine g_goto ?_
                  refine g_invvv hIH1070 sm_0 rfl rfl rfl rfl (s_222 v1058 (by omega) v1069 (by omega) H1070 hIH1070 hJH1070) (fun H1114 r1115 => ?_)
                  obtain ⟨hIH1114, hJH1114, w1116⟩ := r1115
                  have e1117 : k0_2 = fZ H1114 0 2 := e1071.trans w1116.symm
                  refine g_aload_n rfl ?_
                  refine g_invvi hIH1114 sm_0 rfl rfl rfl rfl (s_224 H1114 hIH1114 (JM_n hJH1114)) (fun v1120 H1118 r1119 => ?_)
                  obtain rfl := r1119
                  refine g_istore (l' := [(0, .ref 0), (1, .int a1), (2, .int v1058), (3, .int v1069), (4, .int v1120)]) rfl rfl ?_
                  refine g_aload_n rfl ?_
                  refine g_gfi hIH1114 sm_0 rfl (fun v1121 ev1121 lv1121 uv1121 => ?_)
                  refine g_iconst (by decide) (fun v1122 kv1122 => ?_)
                  refine g_if2_eq (fun c1123 => ?_) (fun c1123 => ?_)
                  · refine g_aload_n rfl ?_
                    refine g_iload_n rfl ?_
                    refine g_pfi hIH1114 sm_0 rfl (gz_any _) (fun H1124 eH1124 hIH1124 => ?_)
                    have hJH1124 : JM H1124 := JM_sF eH1124 hJH1114
                    have e1125 : k0_2 = fZ H1124 0 2 := by rw [eH1124, fZ_sF_ne (by decide)]; exact e1117
                    refine g_aload_n rfl ?_
                    refine g_iload_n rfl ?_
                    refine g_pfi hIH1124 sm_0 rfl (gz_any _) (fun H1126 eH1126 hIH1126 => ?_)
                    have hJH1126 : JM H1126 := JM_sF eH1126 hJH1124
                    have e1127 : k0_2 = fZ H1126 0 2 := by rw [eH1126, fZ_sF_ne (by decide)]; exact e1125
                    refine g_aload_n rfl ?_
                    refine g_iload rfl ?_
                    refine g_pfi hIH1126 sm_0 rfl (gz_any _) (fun H1128 eH1128 hIH1128 => ?_)
                    have hJH1128 : JM H1128 := JM_sF eH1128 hJH1126
                    have e1129 : k0_2 = fZ H1128 0 2 := by rw [eH1128, fZ_sF_ne (by decide)]; exact e1127
                    refine g_nop ?_
                    refine g_iinc (l' := (fun v1130 => [(0, .ref 0), (1, .int a1), (2, .int v1058), (3, .int v1130), (4, .int v1120)])) rfl rfl (by decide) (by omega) (fun _ => rfl) (fun v1130 ev1130 => ?_)
                    refine g_goto ?_
                    refine gG_pick [0, 1, 2, 3] (l' := [(0, .ref 0), (1, .int a1), (2, .int v1058), (3, .int v1130)]) rfl ?_
                    exact ihL1072 v1130 H1128 hIH1128 (JM_n hJH1128) e1129 (by omega) (by omega)
                  · refine g_iload rfl ?_
                    refine g_aload_n rfl ?_
                    refine g_gfi hIH1114 sm_0 rfl (fun v1131 ev1131 lv1131 uv1131 => ?_)
                    refine g_if2_lt (fun c1132 => ?_) (fun c1132 => ?_)
                    · refine g_aload_n rfl ?_
                      refine g_iload_n rfl ?_
                      refine g_pfi hIH1114 sm_0 rfl (gz_any _) (fun H1133 eH1133 hIH1133 => ?_)
                      have hJH1133 : JM H1133 := JM_sF eH1133 hJH1114
                      have e1134 : k0_2 = fZ H1133 0 2 := by rw [eH1133, fZ_sF_ne (by decide)]; exact e1117
                      refine g_aload_n rfl ?_
                      refine g_iload_n rfl ?_
                      refine g_pfi hIH1133 sm_0 rfl (gz_any _) (fun H1135 eH1135 hIH1135 => ?_)
                      have hJH1135 : JM H1135 := JM_sF eH1135 hJH1133
                      have e1136 : k0_2 = fZ H1135 0 2 := by rw [eH1135, fZ_sF_ne (by decide)]; exact e1134
                      refine g_aload_n rfl ?_
                      refine g_iload rfl ?_
                      refine g_pfi hIH1135 sm_0 rfl (gz_any _) (fun H1137 eH1137 hIH1137 => ?_)
                      have hJH1137 : JM H1137 := JM_sF eH1137 hJH1135
                      have e1138 : k0_2 = fZ H1137 0 2 := by rw [eH1137, fZ_sF_ne (by decide)]; exact e1136
                      refine g_nop ?_
                      refine g_iinc (l' := (fun v1139 => [(0, .ref 0), (1, .int a1), (2, .int v1058), (3, .int v1139), (4, .int v1120)])) rfl rfl (by decide) (by omega) (fun _ => rfl) (fun v1139 ev1139 => ?_)
                      refine g_goto ?_
                      refine gG_pick [0, 1, 2, 3] (l' := [(0, .ref 0), (1, .int a1), (2, .int v1058), (3, .int v1139)]) rfl ?_
                      exact ihL1072 v1139 H1137 hIH1137 (JM_n hJH1137) e1138 (by omega) (by omega)
                    · refine g_goto ?_
                      refine g_iinc (l' := (fun v1140 => [(0, .ref 0), (1, .int a1), (2, .int v1058), (3, .int v1140), (4, .int v1120)])) rfl rfl (by decide) (by omega) (fun _ => rfl) (fun v1140 ev1140 => ?_)
                      refine g_goto ?_
                      refine gG_pick [0, 1, 2, 3] (l' := [(0, .ref 0), (1, .int a1), (2, .int v1058), (3, .int v1140)]) rfl ?_
                      exact ihL1072 v1140 H1114 hIH1114 (JM_n hJH1114) e1117 (by omega) (by omega)
        exact L1072 _ v1068 H1059 hIH1059 hJH1059 e1060 (by omega) (Nat.lt_succ_self _)
  exact L1061 _ v1057 H1055 hIH1055 hJH1055 e1056 (by omega) (Nat.lt_succ_self _)
set_option maxRecDepth 4000 in
set_option maxHeartbeats 4000000 in
/-- M.blamed -/
theorem s_227 (a1 : Int32) (H : mzH) (hI : gI SM H) (hJ : JN H) : gCall 227 [.ref 0, .int a1] H (gRi (fun v H' => gI SM H' ∧ JN H' ∧ fZ H' 0 2 = fZ H 0 2)) := by
  obtain ⟨k0_2, ek0_2⟩ : ∃ z, z = fZ H 0 2 := ⟨_, rfl⟩
  have ik0_2 : k0_2.toInt = (fZ H 0 2).toInt := by rw [← ek0_2]
  have bk0_2 : 0 ≤ k0_2.toInt ∧ k0_2.toInt ≤ 900 := by rw [ek0_2]; exact fZ_of hI sm_0 rfl
  refine gG_call [(0, .ref 0), (1, .int a1)] ⟨rfl, rfl, trivial⟩ ?_
  show gG 2 zB_227 (mzBlk zB_227 0) [(0, .ref 0), (1, .int a1)] [] H 0 0 _
  refine g_aload_n rfl ?_
  refine g_iconst (by decide) (fun v81 kv81 => ?_)
  refine g_pfi hI sm_0 rfl (gz_any _) (fun H82 eH82 hIH82 => ?_)
  have hJH82 : JN H82 := JN_sF eH82 hJ
  have e83 : k0_2 = fZ H82 0 2 := by rw [eH82, fZ_sF_ne (by decide)]; exact ek0_2
  refine g_iload_n rfl ?_
  refine g_if_lt (fun c84 => ?_) (fun c84 => ?_)
  · refine g_iconst (by decide) (fun v85 kv85 => ?_)
    exact g_iret ⟨_, rfl, hIH82, hJH82, (e83.symm.trans ek0_2)⟩
  · refine g_iload_n rfl ?_
    refine g_iconst (by decide) (fun v86 kv86 => ?_)
    refine g_if2_le (fun c87 => ?_) (fun c87 => ?_)
    · refine g_aload_n rfl ?_
      refine g_iconst (by decide) (fun v88 kv88 => ?_)
      refine g_invvv hIH82 sm_0 rfl rfl rfl rfl (s_226 v88 (by omega) H82 hIH82 hJH82) (fun H89 r90 => ?_)
      obtain ⟨hIH89, hJH89, w91⟩ := r90
      have e92 : k0_2 = fZ H89 0 2 := e83.trans w91.symm
      refine g_aload_n rfl ?_
      refine g_gfi hIH89 sm_0 rfl (fun v93 ev93 lv93 uv93 => ?_)
      refine g_iconst (by decide) (fun v94 kv94 => ?_)
      refine g_if2_ne (fun c95 => ?_) (fun c95 => ?_)
      · refine g_iload_n rfl ?_
        refine g_if_ne (fun c96 => ?_) (fun c96 => ?_)
        · refine g_aload_n rfl ?_
          refine g_gfi hIH89 sm_0 rfl (fun v97 ev97 lv97 uv97 => ?_)
          refine g_nop ?_
          exact g_iret ⟨_, rfl, hIH89, hJH89, (e92.symm.trans ek0_2)⟩
        · refine g_aload_n rfl ?_
          refine g_gfi hIH89 sm_0 rfl (fun v98 ev98 lv98 uv98 => ?_)
          refine g_goto ?_
          exact g_iret ⟨_, rfl, hIH89, hJH89, (e92.symm.trans ek0_2)⟩
      · refine g_bipush (by decide) (fun v99 kv99 => ?_)
        refine g_goto ?_
        exact g_iret ⟨_, rfl, hIH89, hJH89, (e92.symm.trans ek0_2)⟩
    · refine g_nop ?_
      refine g_iconst (by decide) (fun v100 kv100 => ?_)
      exact g_iret ⟨_, rfl, hIH82, hJH82, (e83.symm.trans ek0_2)⟩
set_option maxRecDepth 4000 in
set_option maxHeartbeats 4000000 in
/-- M.twoBlamed -/
theorem s_228 (a1 : Int32) (H : mzH) (hI : gI SM H) (hJ : JN H) : gCall 228 [.ref 0, .int a1] H (gRi (fun v H' => gI SM H' ∧ JN H' ∧ fZ H' 0 2 = fZ H 0 2)) := by
  obtain ⟨k0_2, ek0_2⟩ : ∃ z, z = fZ H 0 2 := ⟨_, rfl⟩
  have ik0_2 : k0_2.toInt = (fZ H 0 2).toInt := by rw [← ek0_2]
  have bk0_2 : 0 ≤ k0_2.toInt ∧ k0_2.toInt ≤ 900 := by rw [ek0_2]; exact fZ_of hI sm_0 rfl
  refine gG_call [(0, .ref 0), (1, .int a1)] ⟨rfl, rfl, trivial⟩ ?_
  show gG 2 zB_228 (mzBlk zB_228 0) [(0, .ref 0), (1, .int a1)] [] H 0 0 _
  refine g_aload_n rfl ?_
  refine g_iconst (by decide) (fun v93 kv93 => ?_)
  refine g_pfi hI sm_0 rfl (gz_any _) (fun H94 eH94 hIH94 => ?_)
  have hJH94 : JN H94 := JN_sF eH94 hJ
  have e95 : k0_2 = fZ H94 0 2 := by rw [eH94, fZ_sF_ne (by decide)]; exact ek0_2
  refine g_iload_n rfl ?_
  refine g_if_lt (fun c96 => ?_) (fun c96 => ?_)
  · refine g_iconst (by decide) (fun v97 kv97 => ?_)
    exact g_iret ⟨_, rfl, hIH94, hJH94, (e95.symm.trans ek0_2)⟩
  · refine g_iload_n rfl ?_
    refine g_iconst (by decide) (fun v98 kv98 => ?_)
    refine g_if2_le (fun c99 => ?_) (fun c99 => ?_)
    · refine g_aload_n rfl ?_
      refine g_iconst (by decide) (fun v100 kv100 => ?_)
      refine g_invvv hIH94 sm_0 rfl rfl rfl rfl (s_226 v100 (by omega) H94 hIH94 hJH94) (fun H101 r102 => ?_)
      obtain ⟨hIH101, hJH101, w103⟩ := r102
      have e104 : k0_2 = fZ H101 0 2 := e95.trans w103.symm
      refine g_aload_n rfl ?_
      refine g_gfi hIH101 sm_0 rfl (fun v105 ev105 lv105 uv105 => ?_)
      refine g_iconst (by decide) (fun v106 kv106 => ?_)
      refine g_if2_ne (fun c107 => ?_) (fun c107 => ?_)
      · refine g_iload_n rfl ?_
        refine g_if_ne (fun c108 => ?_) (fun c108 => ?_)
        · refine g_iload_n rfl ?_
          refine g_iconst (by decide) (fun v109 kv109 => ?_)
          refine g_if2_ne (fun c110 => ?_) (fun c110 => ?_)
          · refine g_aload_n rfl ?_
            refine g_gfi hIH101 sm_0 rfl (fun v111 ev111 lv111 uv111 => ?_)
            refine g_nop ?_
            exact g_iret ⟨_, rfl, hIH101, hJH101, (e104.symm.trans ek0_2)⟩
          · refine g_aload_n rfl ?_
            refine g_gfi hIH101 sm_0 rfl (fun v112 ev112 lv112 uv112 => ?_)
            refine g_goto ?_
            exact g_iret ⟨_, rfl, hIH101, hJH101, (e104.symm.trans ek0_2)⟩
        · refine g_aload_n rfl ?_
          refine g_gfi hIH101 sm_0 rfl (fun v113 ev113 lv113 uv113 => ?_)
          refine g_goto ?_
          exact g_iret ⟨_, rfl, hIH101, hJH101, (e104.symm.trans ek0_2)⟩
      · refine g_bipush (by decide) (fun v114 kv114 => ?_)
        refine g_goto ?_
        exact g_iret ⟨_, rfl, hIH101, hJH101, (e104.symm.trans ek0_2)⟩
    · refine g_nop ?_
      refine g_iconst (by decide) (fun v115 kv115 => ?_)
      exact g_iret ⟨_, rfl, hIH94, hJH94, (e95.symm.trans ek0_2)⟩
set_option maxRecDepth 4000 in
set_option maxHeartbeats 4000000 in
/-- M.isRefused -/
theorem s_229 (a1 : Int32) (ha1 : 0 ≤ a1.toInt ∧ a1.toInt ≤ 59) (H : mzH) (hI : gI SM H) (hJ : JN H) : gCall 229 [.ref 0, .int a1] H (gRi (fun v H' => gI SM H' ∧ JN H' ∧ (0 ≤ v.toInt ∧ v.toInt ≤ 1) ∧ fZ H' 0 2 = fZ H 0 2)) := by
  obtain ⟨k0_2, ek0_2⟩ : ∃ z, z = fZ H 0 2 := ⟨_, rfl⟩
  have ik0_2 : k0_2.toInt = (fZ H 0 2).toInt := by rw [← ek0_2]
  have bk0_2 : 0 ≤ k0_2.toInt ∧ k0_2.toInt ≤ 900 := by rw [ek0_2]; exact fZ_of hI sm_0 rfl
  refine gG_call [(0, .ref 0), (1, .int a1)] ⟨rfl, rfl, trivial⟩ ?_
  show gG 2 zB_229 (mzBlk zB_229 0) [(0, .ref 0), (1, .int a1)] [] H 0 0 _
  refine g_aload_n rfl ?_
  refine g_invvv hI sm_0 rfl rfl rfl rfl (s_199 H hI hJ) (fun H41 r42 => ?_)
  obtain ⟨hIH41, hJH41, w43, m44, p45⟩ := r42
  have e46 : k0_2 = fZ H41 0 2 := ek0_2.trans w43.symm
  refine g_aload_n rfl ?_
  refine g_gfr hIH41 sm_0 rfl ?_
  refine g_iload_n rfl ?_
  refine g_iaload hIH41 sm_20 rfl (by omega) (fun v47 ev47 lv47 uv47 => ?_)
  refine g_if_eq (fun c48 => ?_) (fun c48 => ?_)
  · refine g_iconst (by decide) (fun v49 kv49 => ?_)
    refine g_nop ?_
    exact g_zret (by omega) ⟨_, rfl, hIH41, (JM_n hJH41), (by omega), (e46.symm.trans ek0_2)⟩
  · refine g_iconst (by decide) (fun v50 kv50 => ?_)
    refine g_goto ?_
    exact g_zret (by omega) ⟨_, rfl, hIH41, (JM_n hJH41), (by omega), (e46.symm.trans ek0_2)⟩
