set_option maxRecDepth 4000 in
set_option maxHeartbeats 4000000 in
/-- M.cause -/
theorem s_230 (a1 : Int32) (H : mzH) (hI : gI SM H) (hJ : JN H) : gCall 230 [.ref 0, .int a1] H (gRi (fun v H' => gI SM H' ∧ JN H' ∧ fZ H' 0 2 = fZ H 0 2)) := by
  obtain ⟨k0_2, ek0_2⟩ : ∃ z, z = fZ H 0 2 := ⟨_, rfl⟩
  have ik0_2 : k0_2.toInt = (fZ H 0 2).toInt := by rw [← ek0_2]
  have bk0_2 : 0 ≤ k0_2.toInt ∧ k0_2.toInt ≤ 900 := by rw [ek0_2]; exact fZ_of hI sm_0 rfl
  refine gG_call [(0, .ref 0), (1, .int a1)] ⟨rfl, rfl, trivial⟩ ?_
  show gG 3 zB_230 (mzBlk zB_230 0) [(0, .ref 0), (1, .int a1)] [] H 0 0 _
  refine g_aload_n rfl ?_
  refine g_iconst (by decide) (fun v315 kv315 => ?_)
  refine g_pfi hI sm_0 rfl (gz_any _) (fun H316 eH316 hIH316 => ?_)
  have hJH316 : JN H316 := JN_sF eH316 hJ
  have e317 : k0_2 = fZ H316 0 2 := by rw [eH316, fZ_sF_ne (by decide)]; exact ek0_2
  refine g_iload_n rfl ?_
  refine g_if_lt (fun c318 => ?_) (fun c318 => ?_)
  · refine g_iconst (by decide) (fun v319 kv319 => ?_)
    exact g_iret ⟨_, rfl, hIH316, hJH316, (e317.symm.trans ek0_2)⟩
  · refine g_iload_n rfl ?_
    refine g_aload_n rfl ?_
    refine g_invvi hIH316 sm_0 rfl rfl rfl rfl (s_180 H316 hIH316 hJH316) (fun v322 H320 r321 => ?_)
    obtain ⟨rfl, bv322, p323⟩ := r321
    refine g_if2_lt (fun c324 => ?_) (fun c324 => ?_)
    · refine g_aload_n rfl ?_
      refine g_iload_n rfl ?_
      refine g_invvi hIH316 sm_0 rfl rfl rfl rfl (s_229 a1 (by omega) H316 hIH316 hJH316) (fun v327 H325 r326 => ?_)
      obtain ⟨hIH325, hJH325, bv327, w328⟩ := r326
      have e329 : k0_2 = fZ H325 0 2 := e317.trans w328.symm
      refine g_if_ne (fun c330 => ?_) (fun c330 => ?_)
      · refine g_iconst (by decide) (fun v331 kv331 => ?_)
        refine g_istore_n (l' := [(0, .ref 0), (1, .int a1), (2, .int v331)]) rfl rfl ?_
        refine g_nop ?_
        have L335 : ∀ (N : Nat) (v332 : Int32) (H333 : mzH), gI SM H333 → JN H333 → k0_2 = fZ H333 0 2 → (0 ≤ v332.toInt ∧ v332.toInt ≤ 60) → (60 - v332.toInt).toNat < N → gG 3 zB_230 (mzBlk zB_230 4) [(0, .ref 0), (1, .int a1), (2, .int v332)] [] H333 0 0 (gRi (fun v H' => gI SM H' ∧ JN H' ∧ fZ H' 0 2 = fZ H 0 2)) := by
          intro N
          induction N with
          | zero => intro v332 H333 hIH333 hJH333 e334 bv332 hmL335; exact absurd hmL335 (Nat.not_lt_zero _)
          | succ N ihL335 =>
            intro v332 H333 hIH333 hJH333 e334 bv332 hmL335
            refine g_iload_n rfl ?_
            refine g_aload_n rfl ?_
            refine g_invvi hIH333 sm_0 rfl rfl rfl rfl (s_180 H333 hIH333 hJH333) (fun v338 H336 r337 => ?_)
            obtain ⟨rfl, bv338, p339⟩ := r337
            refine g_if2_ge (fun c340 => ?_) (fun c340 => ?_)
            · refine g_bipush (by decide) (fun v341 kv341 => ?_)
              exact g_iret ⟨_, rfl, hIH333, hJH333, (e334.symm.trans ek0_2)⟩
            · refine g_iload_n rfl ?_
              refine g_iload_n rfl ?_
              refine g_if2_ne (fun c342 => ?_) (fun c342 => ?_)
              · refine g_aload_n rfl ?_
                refine g_iload_n rfl ?_
                refine g_iconst (by decide) (fun v343 kv343 => ?_)
                refine g_invvv hIH333 sm_0 rfl rfl rfl rfl (s_222 v332 (by omega) v343 (by omega) H333 hIH333 hJH333) (fun H344 r345 => ?_)
                obtain ⟨hIH344, hJH344, w346⟩ := r345
                have e347 : k0_2 = fZ H344 0 2 := e334.trans w346.symm
                refine g_aload_n rfl ?_
                refine g_gfr hIH344 sm_0 rfl ?_
                refine g_iload_n rfl ?_
                refine g_iaload hIH344 sm_20 rfl (by omega) (fun v348 ev348 lv348 uv348 => ?_)
                refine g_if_ne (fun c349 => ?_) (fun c349 => ?_)
                · refine g_iinc (l' := (fun v350 => [(0, .ref 0), (1, .int a1), (2, .int v350)])) rfl rfl (by decide) (by omega) (fun _ => rfl) (fun v350 ev350 => ?_)
                  refine g_goto ?_
                  exact ihL335 v350 H344 hIH344 (JM_n hJH344) e347 (by omega) (by omega)
                · refine g_iload_n rfl ?_
                  exact g_iret ⟨_, rfl, hIH344, (JM_n hJH344), (e347.symm.trans ek0_2)⟩
              · refine g_goto ?_
                refine g_iinc (l' := (fun v351 => [(0, .ref 0), (1, .int a1), (2, .int v351)])) rfl rfl (by decide) (by omega) (fun _ => rfl) (fun v351 ev351 => ?_)
                refine g_goto ?_
                exact ihL335 v351 H333 hIH333 hJH333 e334 (by omega) (by omega)
        exact L335 _ v331 H325 hIH325 hJH325 e329 (by omega) (Nat.lt_succ_self _)
      · refine g_bipush (by decide) (fun v352 kv352 => ?_)
        exact g_iret ⟨_, rfl, hIH325, hJH325, (e329.symm.trans ek0_2)⟩
    · refine g_nop ?_
      refine g_iconst (by decide) (fun v353 kv353 => ?_)
      exact g_iret ⟨_, rfl, hIH316, hJH316, (e317.symm.trans ek0_2)⟩
set_option maxRecDepth 4000 in
set_option maxHeartbeats 4000000 in
/-- M.needs -/
theorem s_231 (a1 : Int32) (a2 : Int32) (H : mzH) (hI : gI SM H) (hJ : JN H) : gCall 231 [.ref 0, .int a1, .int a2] H (gRi (fun v H' => gI SM H' ∧ JN H' ∧ fZ H' 0 2 = fZ H 0 2)) := by
  obtain ⟨k0_2, ek0_2⟩ : ∃ z, z = fZ H 0 2 := ⟨_, rfl⟩
  have ik0_2 : k0_2.toInt = (fZ H 0 2).toInt := by rw [← ek0_2]
  have bk0_2 : 0 ≤ k0_2.toInt ∧ k0_2.toInt ≤ 900 := by rw [ek0_2]; exact fZ_of hI sm_0 rfl
  refine gG_call [(0, .ref 0), (1, .int a1), (2, .int a2)] ⟨rfl, rfl, rfl, trivial⟩ ?_
  show gG 5 zB_231 (mzBlk zB_231 0) [(0, .ref 0), (1, .int a1), (2, .int a2)] [] H 0 0 _
  refine g_aload_n rfl ?_
  refine g_iconst (by decide) (fun v393 kv393 => ?_)
  refine g_pfi hI sm_0 rfl (gz_any _) (fun H394 eH394 hIH394 => ?_)
  have hJH394 : JN H394 := JN_sF eH394 hJ
  have e395 : k0_2 = fZ H394 0 2 := by rw [eH394, fZ_sF_ne (by decide)]; exact ek0_2
  refine g_iload_n rfl ?_
  refine g_if_lt (fun c396 => ?_) (fun c396 => ?_)
  · refine g_iconst (by decide) (fun v397 kv397 => ?_)
    exact g_iret ⟨_, rfl, hIH394, hJH394, (e395.symm.trans ek0_2)⟩
  · refine g_iload_n rfl ?_
    refine g_aload_n rfl ?_
    refine g_invvi hIH394 sm_0 rfl rfl rfl rfl (s_180 H394 hIH394 hJH394) (fun v400 H398 r399 => ?_)
    obtain ⟨rfl, bv400, p401⟩ := r399
    refine g_if2_ge (fun c402 => ?_) (fun c402 => ?_)
    · refine g_iconst (by decide) (fun v403 kv403 => ?_)
      exact g_iret ⟨_, rfl, hIH394, hJH394, (e395.symm.trans ek0_2)⟩
    · refine g_iload_n rfl ?_
      refine g_if_ge (fun c404 => ?_) (fun c404 => ?_)
      · refine g_aload_n rfl ?_
        refine g_iload_n rfl ?_
        refine g_invvi hIH394 sm_0 rfl rfl rfl rfl (s_229 a1 (by omega) H394 hIH394 hJH394) (fun v407 H405 r406 => ?_)
        obtain ⟨hIH405, hJH405, bv407, w408⟩ := r406
        have e409 : k0_2 = fZ H405 0 2 := e395.trans w408.symm
        refine g_if_eq (fun c410 => ?_) (fun c410 => ?_)
        · refine g_iload_n rfl ?_
          refine g_istore_n (l' := [(0, .ref 0), (1, .int a1), (2, .int a2), (3, .int a2)]) rfl rfl ?_
          refine g_iconst (by decide) (fun v411 kv411 => ?_)
          refine g_istore (l' := [(0, .ref 0), (1, .int a1), (2, .int a2), (3, .int a2), (4, .int v411)]) rfl rfl ?_
          refine g_nop ?_
          have L416 : ∀ (N : Nat) (v412 : Int32) (v413 : Int32) (H414 : mzH), gI SM H414 → JN H414 → k0_2 = fZ H414 0 2 → (0 ≤ v412.toInt ∧ v412.toInt ≤ 2147483647) → (0 ≤ v413.toInt ∧ v413.toInt ≤ 60) → (60 - v413.toInt).toNat < N → gG 5 zB_231 (mzBlk zB_231 4) [(0, .ref 0), (1, .int a1), (2, .int a2), (3, .int v412), (4, .int v413)] [] H414 0 0 (gRi (fun v H' => gI SM H' ∧ JN H' ∧ fZ H' 0 2 = fZ H 0 2)) := by
            intro N
            induction N with
            | zero => intro v412 v413 H414 hIH414 hJH414 e415 bv412 bv413 hmL416; exact absurd hmL416 (Nat.not_lt_zero _)
            | succ N ihL416 =>
              intro v412 v413 H414 hIH414 hJH414 e415 bv412 bv413 hmL416
              refine g_iload rfl ?_
              refine g_aload_n rfl ?_
              refine g_invvi hIH414 sm_0 rfl rfl rfl rfl (s_180 H414 hIH414 hJH414) (fun v419 H417 r418 => ?_)
              obtain ⟨rfl, bv419, p420⟩ := r418
              refine g_if2_ge (fun c421 => ?_) (fun c421 => ?_)
              · refine g_bipush (by decide) (fun v422 kv422 => ?_)
                exact g_iret ⟨_, rfl, hIH414, hJH414, (e415.symm.trans ek0_2)⟩
              · refine g_iload rfl ?_
                refine g_iload_n rfl ?_
                refine g_if2_ne (fun c423 => ?_) (fun c423 => ?_)
                · refine g_aload_n rfl ?_
                  refine g_iload rfl ?_
                  refine g_iconst (by decide) (fun v424 kv424 => ?_)
                  refine g_invvv hIH414 sm_0 rfl rfl rfl rfl (s_222 v413 (by omega) v424 (by omega) H414 hIH414 hJH414) (fun H425 r426 => ?_)
                  obtain ⟨hIH425, hJH425, w427⟩ := r426
                  have e428 : k0_2 = fZ H425 0 2 := e415.trans w427.symm
                  refine g_aload_n rfl ?_
                  refine g_gfr hIH425 sm_0 rfl ?_
                  refine g_iload_n rfl ?_
                  refine g_iaload hIH425 sm_20 rfl (by omega) (fun v429 ev429 lv429 uv429 => ?_)
                  refine g_if_ne (fun c430 => ?_) (fun c430 => ?_)
                  · refine g_iload_n rfl ?_
                    refine g_if_ne (fun c431 => ?_) (fun c431 => ?_)
                    · refine g_iinc (l' := (fun v432 => [(0, .ref 0), (1, .int a1), (2, .int a2), (3, .int v432), (4, .int v413)])) rfl rfl (by decide) (by have := gz_any v412; omega) (fun _ => rfl) (fun v432 ev432 => ?_)
                      refine g_nop ?_
                      refine g_iinc (l' := (fun v433 => [(0, .ref 0), (1, .int a1), (2, .int a2), (3, .int v432), (4, .int v433)])) rfl rfl (by decide) (by omega) (fun _ => rfl) (fun v433 ev433 => ?_)
                      refine g_goto ?_
                      exact ihL416 v432 v433 H425 hIH425 (JM_n hJH425) e428 (by have := gz_any v432; omega) (by omega) (by omega)
                    · refine g_iload rfl ?_
                      exact g_iret ⟨_, rfl, hIH425, (JM_n hJH425), (e428.symm.trans ek0_2)⟩
                  · refine g_goto ?_
                    refine g_iinc (l' := (fun v434 => [(0, .ref 0), (1, .int a1), (2, .int a2), (3, .int v412), (4, .int v434)])) rfl rfl (by decide) (by omega) (fun _ => rfl) (fun v434 ev434 => ?_)
                    refine g_goto ?_
                    exact ihL416 v412 v434 H425 hIH425 (JM_n hJH425) e428 (by have := gz_any v412; omega) (by omega) (by omega)
                · refine g_goto ?_
                  refine g_iinc (l' := (fun v435 => [(0, .ref 0), (1, .int a1), (2, .int a2), (3, .int v412), (4, .int v435)])) rfl rfl (by decide) (by omega) (fun _ => rfl) (fun v435 ev435 => ?_)
                  refine g_goto ?_
                  exact ihL416 v412 v435 H414 hIH414 hJH414 e415 (by have := gz_any v412; omega) (by omega) (by omega)
          exact L416 _ a2 v411 H405 hIH405 hJH405 e409 (by have := gz_any a2; omega) (by omega) (Nat.lt_succ_self _)
        · refine g_bipush (by decide) (fun v436 kv436 => ?_)
          exact g_iret ⟨_, rfl, hIH405, hJH405, (e409.symm.trans ek0_2)⟩
      · refine g_nop ?_
        refine g_iconst (by decide) (fun v437 kv437 => ?_)
        exact g_iret ⟨_, rfl, hIH394, hJH394, (e395.symm.trans ek0_2)⟩
set_option maxRecDepth 4000 in
set_option maxHeartbeats 4000000 in
/-- M.runsAt -/
theorem s_232 (a1 : Int32) (ha1 : 0 ≤ a1.toInt ∧ a1.toInt ≤ 59) (a2 : Int32) (H : mzH) (hI : gI SM H) (hJ : JN H) : gCall 232 [.ref 0, .int a1, .int a2] H (gRv (fun H' => gI SM H' ∧ JM H' ∧ fZ H' 0 2 = fZ H 0 2)) := by
  obtain ⟨k0_2, ek0_2⟩ : ∃ z, z = fZ H 0 2 := ⟨_, rfl⟩
  have ik0_2 : k0_2.toInt = (fZ H 0 2).toInt := by rw [← ek0_2]
  have bk0_2 : 0 ≤ k0_2.toInt ∧ k0_2.toInt ≤ 900 := by rw [ek0_2]; exact fZ_of hI sm_0 rfl
  refine gG_call [(0, .ref 0), (1, .int a1), (2, .int a2)] ⟨rfl, rfl, rfl, trivial⟩ ?_
  show gG 3 zB_232 (mzBlk zB_232 0) [(0, .ref 0), (1, .int a1), (2, .int a2)] [] H 0 0 _
  refine g_aload_n rfl ?_
  refine g_invvv hI sm_0 rfl rfl rfl rfl (s_182 H hI hJ) (fun H65 r66 => ?_)
  obtain ⟨hIH65, hJH65, m67, m68, p69⟩ := r66
  have e70 : k0_2 = fZ H65 0 2 := ek0_2.trans (m67 0 2).symm
  refine g_aload_n rfl ?_
  refine g_gfr hIH65 sm_0 rfl ?_
  refine g_iload_n rfl ?_
  refine g_iload_n rfl ?_
  refine g_iastore hIH65 sm_18 (by omega) (gz_any _) (fun H71 eH71 hIH71 => ?_)
  have hJH71 : JN H71 := JN_sA (by decide) eH71 hJH65
  have e72 : k0_2 = fZ H71 0 2 := by rw [eH71, fZ_sA]; exact e70
  refine g_aload_n rfl ?_
  refine g_sipush (by decide) (fun v73 kv73 => ?_)
  refine g_invvv hIH71 sm_0 rfl rfl rfl rfl (s_198 v73 H71 hIH71 hJH71) (fun H74 r75 => ?_)
  obtain ⟨hIH74, hJH74, w76, m77, m78, p79⟩ := r75
  have e80 : k0_2 = fZ H74 0 2 := e72.trans w76.symm
  exact g_ret ⟨rfl, hIH74, hJH74, (e80.symm.trans ek0_2)⟩
set_option maxRecDepth 4000 in
set_option maxHeartbeats 4000000 in
/-- M.ifAt -/
theorem s_233 (a1 : Int32) (a2 : Int32) (a3 : Int32) (H : mzH) (hI : gI SM H) (hJ : JN H) : gCall 233 [.ref 0, .int a1, .int a2, .int a3] H (gRi (fun v H' => gI SM H' ∧ JN H' ∧ fZ H' 0 2 = fZ H 0 2)) := by
  obtain ⟨k0_2, ek0_2⟩ : ∃ z, z = fZ H 0 2 := ⟨_, rfl⟩
  have ik0_2 : k0_2.toInt = (fZ H 0 2).toInt := by rw [← ek0_2]
  have bk0_2 : 0 ≤ k0_2.toInt ∧ k0_2.toInt ≤ 900 := by rw [ek0_2]; exact fZ_of hI sm_0 rfl
  refine gG_call [(0, .ref 0), (1, .int a1), (2, .int a2), (3, .int a3)] ⟨rfl, rfl, rfl, rfl, trivial⟩ ?_
  show gG 4 zB_233 (mzBlk zB_233 0) [(0, .ref 0), (1, .int a1), (2, .int a2), (3, .int a3)] [] H 0 0 _
  refine g_aload_n rfl ?_
  refine g_iconst (by decide) (fun v169 kv169 => ?_)
  refine g_pfi hI sm_0 rfl (gz_any _) (fun H170 eH170 hIH170 => ?_)
  have hJH170 : JN H170 := JN_sF eH170 hJ
  have e171 : k0_2 = fZ H170 0 2 := by rw [eH170, fZ_sF_ne (by decide)]; exact ek0_2
  refine g_iload_n rfl ?_
  refine g_if_lt (fun c172 => ?_) (fun c172 => ?_)
  · refine g_sipush (by decide) (fun v173 kv173 => ?_)
    exact g_iret ⟨_, rfl, hIH170, hJH170, (e171.symm.trans ek0_2)⟩
  · refine g_iload_n rfl ?_
    refine g_aload_n rfl ?_
    refine g_invvi hIH170 sm_0 rfl rfl rfl rfl (s_180 H170 hIH170 hJH170) (fun v176 H174 r175 => ?_)
    obtain ⟨rfl, bv176, p177⟩ := r175
    refine g_if2_ge (fun c178 => ?_) (fun c178 => ?_)
    · refine g_sipush (by decide) (fun v179 kv179 => ?_)
      exact g_iret ⟨_, rfl, hIH170, hJH170, (e171.symm.trans ek0_2)⟩
    · refine g_iload_n rfl ?_
      refine g_invti rfl rfl rfl (s_206 a2 H170 hIH170 hJH170) (fun v182 H180 r181 => ?_)
      obtain ⟨rfl, bv182⟩ := r181
      refine g_if_eq (fun c183 => ?_) (fun c183 => ?_)
      · refine g_sipush (by decide) (fun v184 kv184 => ?_)
        exact g_iret ⟨_, rfl, hIH170, hJH170, (e171.symm.trans ek0_2)⟩
      · refine g_iload_n rfl ?_
        refine g_iconst (by decide) (fun v185 kv185 => ?_)
        refine g_if2_eq (fun c186 => ?_) (fun c186 => ?_)
        · refine g_aload_n rfl ?_
          refine g_iload_n rfl ?_
          refine g_iload_n rfl ?_
          refine g_invvv hIH170 sm_0 rfl rfl rfl rfl (s_232 a1 (by omega) a2 H170 hIH170 hJH170) (fun H187 r188 => ?_)
          obtain ⟨hIH187, hJH187, w189⟩ := r188
          have e190 : k0_2 = fZ H187 0 2 := e171.trans w189.symm
          refine g_iload_n rfl ?_
          refine g_iconst (by decide) (fun v191 kv191 => ?_)
          refine g_if2_ne (fun c192 => ?_) (fun c192 => ?_)
          · exfalso; omega
          · refine g_aload_n rfl ?_
            refine g_invvi hIH187 sm_0 rfl rfl rfl rfl (s_224 H187 hIH187 (JM_n hJH187)) (fun v195 H193 r194 => ?_)
            obtain rfl := r194
            refine g_goto ?_
            exact g_iret ⟨_, rfl, hIH187, (JM_n hJH187), (e190.symm.trans ek0_2)⟩
        · refine g_iload_n rfl ?_
          refine g_invti rfl rfl rfl (s_205 a3 H170 hIH170 hJH170) (fun v198 H196 r197 => ?_)
          obtain ⟨rfl, bv198, p199⟩ := r197
          refine g_if_ne (fun c200 => ?_) (fun c200 => ?_)
          · refine g_aload_n rfl ?_
            refine g_iload_n rfl ?_
            refine g_iload_n rfl ?_
            refine g_invvv hIH170 sm_0 rfl rfl rfl rfl (s_232 a1 (by omega) a2 H170 hIH170 hJH170) (fun H201 r202 => ?_)
            obtain ⟨hIH201, hJH201, w203⟩ := r202
            have e204 : k0_2 = fZ H201 0 2 := e171.trans w203.symm
            refine g_iload_n rfl ?_
            refine g_iconst (by decide) (fun v205 kv205 => ?_)
            refine g_if2_ne (fun c206 => ?_) (fun c206 => ?_)
            · refine g_aload_n rfl ?_
              refine g_iload_n rfl ?_
              refine g_invvi hIH201 sm_0 rfl rfl rfl rfl (s_201 a3 (by omega) H201 hIH201 hJH201) (fun v209 H207 r208 => ?_)
              obtain ⟨rfl, bv209⟩ := r208
              refine g_nop ?_
              exact g_iret ⟨_, rfl, hIH201, (JM_n hJH201), (e204.symm.trans ek0_2)⟩
            · exfalso; omega
          · refine g_nop ?_
            refine g_sipush (by decide) (fun v210 kv210 => ?_)
            exact g_iret ⟨_, rfl, hIH170, hJH170, (e171.symm.trans ek0_2)⟩
set_option maxRecDepth 4000 in
set_option maxHeartbeats 4000000 in
/-- M.window -/
theorem s_234 (a1 : Int32) (a2 : Int32) (H : mzH) (hI : gI SM H) (hJ : JN H) : gCall 234 [.ref 0, .int a1, .int a2] H (gRi (fun v H' => gI SM H' ∧ JN H' ∧ fZ H' 0 2 = fZ H 0 2)) := by
  obtain ⟨k0_2, ek0_2⟩ : ∃ z, z = fZ H 0 2 := ⟨_, rfl⟩
  have ik0_2 : k0_2.toInt = (fZ H 0 2).toInt := by rw [← ek0_2]
  have bk0_2 : 0 ≤ k0_2.toInt ∧ k0_2.toInt ≤ 900 := by rw [ek0_2]; exact fZ_of hI sm_0 rfl
  refine gG_call [(0, .ref 0), (1, .int a1), (2, .int a2)] ⟨rfl, rfl, rfl, trivial⟩ ?_
  show gG 7 zB_234 (mzBlk zB_234 0) [(0, .ref 0), (1, .int a1), (2, .int a2)] [] H 0 0 _
  refine g_aload_n rfl ?_
  refine g_iconst (by decide) (fun v667 kv667 => ?_)
  refine g_pfi hI sm_0 rfl (gz_any _) (fun H668 eH668 hIH668 => ?_)
  have hJH668 : JN H668 := JN_sF eH668 hJ
  have e669 : k0_2 = fZ H668 0 2 := by rw [eH668, fZ_sF_ne (by decide)]; exact ek0_2
  refine g_iload_n rfl ?_
  refine g_if_lt (fun c670 => ?_) (fun c670 => ?_)
  · refine g_iconst (by decide) (fun v671 kv671 => ?_)
    exact g_iret ⟨_, rfl, hIH668, hJH668, (e669.symm.trans ek0_2)⟩
  · refine g_iload_n rfl ?_
    refine g_aload_n rfl ?_
    refine g_invvi hIH668 sm_0 rfl rfl rfl rfl (s_180 H668 hIH668 hJH668) (fun v674 H672 r673 => ?_)
    obtain ⟨rfl, bv674, p675⟩ := r673
    refine g_if2_ge (fun c676 => ?_) (fun c676 => ?_)
    · refine g_iconst (by decide) (fun v677 kv677 => ?_)
      exact g_iret ⟨_, rfl, hIH668, hJH668, (e669.symm.trans ek0_2)⟩
    · refine g_iload_n rfl ?_
      refine g_if_lt (fun c678 => ?_) (fun c678 => ?_)
      · refine g_iconst (by decide) (fun v679 kv679 => ?_)
        exact g_iret ⟨_, rfl, hIH668, hJH668, (e669.symm.trans ek0_2)⟩
      · refine g_iload_n rfl ?_
        refine g_iconst (by decide) (fun v680 kv680 => ?_)
        refine g_if2_le (fun c681 => ?_) (fun c681 => ?_)
        · refine g_bipush (by decide) (fun v682 kv682 => ?_)
          refine g_istore_n (l' := [(0, .ref 0), (1, .int a1), (2, .int a2), (3, .int v682)]) rfl rfl ?_
          refine g_bipush (by decide) (fun v683 kv683 => ?_)
          refine g_istore (l' := [(0, .ref 0), (1, .int a1), (2, .int a2), (3, .int v682), (4, .int v683)]) rfl rfl ?_
          refine g_iconst (by decide) (fun v684 kv684 => ?_)
          refine g_istore (l' := [(0, .ref 0), (1, .int a1), (2, .int a2), (3, .int v682), (4, .int v683), (5, .int v684)]) rfl rfl ?_
          refine g_iconst (by decide) (fun v685 kv685 => ?_)
          refine g_istore (l' := [(0, .ref 0), (1, .int a1), (2, .int a2), (3, .int v682), (4, .int v683), (5, .int v684), (6, .int v685)]) rfl rfl ?_
          refine g_nop ?_
          have L692 : ∀ (N : Nat) (v686 : Int32) (v687 : Int32) (v688 : Int32) (v689 : Int32) (H690 : mzH), gI SM H690 → JN H690 → k0_2 = fZ H690 0 2 → (-2 ≤ v686.toInt ∧ v686.toInt ≤ 999) → (-2 ≤ v687.toInt ∧ v687.toInt ≤ 999) → (0 ≤ v689.toInt ∧ v689.toInt ≤ 1000) → (1000 - v689.toInt).toNat < N → gG 7 zB_234 (mzBlk zB_234 3) [(0, .ref 0), (1, .int a1), (2, .int a2), (3, .int v686), (4, .int v687), (5, .int v688), (6, .int v689)] [] H690 0 0 (gRi (fun v H' => gI SM H' ∧ JN H' ∧ fZ H' 0 2 = fZ H 0 2)) := by
            intro N
            induction N with
            | zero => intro v686 v687 v688 v689 H690 hIH690 hJH690 e691 bv686 bv687 bv689 hmL692; exact absurd hmL692 (Nat.not_lt_zero _)
            | succ N ihL692 =>
              intro v686 v687 v688 v689 H690 hIH690 hJH690 e691 bv686 bv687 bv689 hmL692
              refine g_iload rfl ?_
              refine g_sipush (by decide) (fun v693 kv693 => ?_)
              refine g_if2_gt (fun c694 => ?_) (fun c694 => ?_)
              · refine g_iload_n rfl ?_
                refine g_if_ne (fun c695 => ?_) (fun c695 => ?_)
                · refine g_iload_n rfl ?_
                  refine g_iconst (by decide) (fun v696 kv696 => ?_)
                  refine g_if2_ne (fun c697 => ?_) (fun c697 => ?_)
                  · refine g_iload rfl ?_
                    refine g_nop ?_
                    exact g_iret ⟨_, rfl, hIH690, hJH690, (e691.symm.trans ek0_2)⟩
                  · refine g_iload rfl ?_
                    refine g_goto ?_
                    exact g_iret ⟨_, rfl, hIH690, hJH690, (e691.symm.trans ek0_2)⟩
                · refine g_iload_n rfl ?_
                  refine g_goto ?_
                  exact g_iret ⟨_, rfl, hIH690, hJH690, (e691.symm.trans ek0_2)⟩
              · refine g_aload_n rfl ?_
                refine g_iload_n rfl ?_
                refine g_iload rfl ?_
                refine g_invvv hIH690 sm_0 rfl rfl rfl rfl (s_232 a1 (by omega) v689 H690 hIH690 hJH690) (fun H698 r699 => ?_)
                obtain ⟨hIH698, hJH698, w700⟩ := r699
                have e701 : k0_2 = fZ H698 0 2 := e691.trans w700.symm
                refine g_aload_n rfl ?_
                refine g_gfr hIH698 sm_0 rfl ?_
                refine g_iload_n rfl ?_
                refine g_iaload hIH698 sm_20 rfl (by omega) (fun v702 ev702 lv702 uv702 => ?_)
                refine g_if_eq (fun c703 => ?_) (fun c703 => ?_)
                · refine g_iload rfl ?_
                  refine g_if_ne (fun c704 => ?_) (fun c704 => ?_)
                  · refine g_iload_n rfl ?_
                    refine g_nop ?_
                    refine g_istore_n (l' := [(0, .ref 0), (1, .int a1), (2, .int a2), (3, .int v686), (4, .int v687), (5, .int v688), (6, .int v689)]) rfl rfl ?_
                    refine g_iload rfl ?_
                    refine g_istore (l' := [(0, .ref 0), (1, .int a1), (2, .int a2), (3, .int v686), (4, .int v689), (5, .int v688), (6, .int v689)]) rfl rfl ?_
                    refine g_iinc' (l' := (fun v705 => [(0, .ref 0), (1, .int a1), (2, .int a2), (3, .int v686), (4, .int v689), (5, .int v705), (6, .int v689)])) rfl rfl (fun _ => rfl) (fun v705 => ?_)
                    refine g_nop ?_
                    refine g_iinc (l' := (fun v706 => [(0, .ref 0), (1, .int a1), (2, .int a2), (3, .int v686), (4, .int v689), (5, .int v705), (6, .int v706)])) rfl rfl (by decide) (by omega) (fun _ => rfl) (fun v706 ev706 => ?_)
                    refine g_goto ?_
                    exact ihL692 v686 v689 v705 v706 H698 hIH698 (JM_n hJH698) e701 (by omega) (by omega) (by omega) (by omega)
                  · refine g_iload rfl ?_
                    refine g_goto ?_
                    refine g_istore_n (l' := [(0, .ref 0), (1, .int a1), (2, .int a2), (3, .int v689), (4, .int v687), (5, .int v688), (6, .int v689)]) rfl rfl ?_
                    refine g_iload rfl ?_
                    refine g_istore (l' := [(0, .ref 0), (1, .int a1), (2, .int a2), (3, .int v689), (4, .int v689), (5, .int v688), (6, .int v689)]) rfl rfl ?_
                    refine g_iinc (l' := (fun v707 => [(0, .ref 0), (1, .int a1), (2, .int a2), (3, .int v689), (4, .int v689), (5, .int v707), (6, .int v689)])) rfl rfl (by decide) (by omega) (fun _ => rfl) (fun v707 ev707 => ?_)
                    refine g_nop ?_
                    refine g_iinc (l' := (fun v708 => [(0, .ref 0), (1, .int a1), (2, .int a2), (3, .int v689), (4, .int v689), (5, .int v707), (6, .int v708)])) rfl rfl (by decide) (by omega) (fun _ => rfl) (fun v708 ev708 => ?_)
                    refine g_goto ?_
                    exact ihL692 v689 v689 v707 v708 H698 hIH698 (JM_n hJH698) e701 (by omega) (by omega) (by omega) (by omega)
                · refine g_goto ?_
                  refine g_iinc (l' := (fun v709 => [(0, .ref 0), (1, .int a1), (2, .int a2), (3, .int v686), (4, .int v687), (5, .int v688), (6, .int v709)])) rfl rfl (by decide) (by omega) (fun _ => rfl) (fun v709 ev709 => ?_)
                  refine g_goto ?_
                  exact ihL692 v686 v687 v688 v709 H698 hIH698 (JM_n hJH698) e701 (by omega) (by omega) (by omega) (by omega)
          exact L692 _ v682 v683 v684 v685 H668 hIH668 hJH668 e669 (by omega) (by omega) (by omega) (Nat.lt_succ_self _)
        · refine g_nop ?_
          refine g_iconst (by decide) (fun v710 kv710 => ?_)
          exact g_iret ⟨_, rfl, hIH668, hJH668, (e669.symm.trans ek0_2)⟩
set_option maxRecDepth 4000 in
set_option maxHeartbeats 4000000 in
/-- M.meets -/
theorem s_235 (H : mzH) (hI : gI SM H) (hJ : JM H) : gCall 235 [.ref 0] H (gRv (fun H' => gI SM H' ∧ JM H' ∧ (∀ a f, fZ H' a f = fZ H a f))) := by
  have mkF : ∀ a f, fZ H a f = fZ H a f := fun _ _ => rfl
  refine gG_call [(0, .ref 0)] ⟨rfl, trivial⟩ ?_
  show gG 2 zB_235 (mzBlk zB_235 0) [(0, .ref 0)] [] H 0 0 _
  refine g_iconst (by decide) (fun v553 kv553 => ?_)
  refine g_istore_n (l' := [(0, .ref 0), (1, .int v553)]) rfl rfl ?_
  refine g_nop ?_
  have L557 : ∀ (N : Nat) (v554 : Int32) (H555 : mzH), gI SM H555 → JM H555 → (∀ a f, fZ H555 a f = fZ H a f) → (0 ≤ v554.toInt ∧ v554.toInt ≤ 40) → (40 - v554.toInt).toNat < N → gG 2 zB_235 (mzBlk zB_235 1) [(0, .ref 0), (1, .int v554)] [] H555 0 0 (gRv (fun H' => gI SM H' ∧ JM H' ∧ (∀ a f, fZ H' a f = fZ H a f))) := by
    intro N
    induction N with
    | zero => intro v554 H555 hIH555 hJH555 m556 bv554 hmL557; exact absurd hmL557 (Nat.not_lt_zero _)
    | succ N ihL557 =>
      intro v554 H555 hIH555 hJH555 m556 bv554 hmL557
      refine g_iload_n rfl ?_
      refine g_bipush (by decide) (fun v558 kv558 => ?_)
      refine g_if2_ge (fun c559 => ?_) (fun c559 => ?_)
      · refine g_iconst (by decide) (fun v560 kv560 => ?_)
        refine g_istore_n (l' := [(0, .ref 0), (1, .int v560)]) rfl rfl ?_
        refine g_nop ?_
        have L564 : ∀ (N : Nat) (v561 : Int32) (H562 : mzH), gI SM H562 → JM H562 → (∀ a f, fZ H562 a f = fZ H a f) → (0 ≤ v561.toInt ∧ v561.toInt ≤ 40) → (40 - v561.toInt).toNat < N → gG 2 zB_235 (mzBlk zB_235 3) [(0, .ref 0), (1, .int v561)] [] H562 0 0 (gRv (fun H' => gI SM H' ∧ JM H' ∧ (∀ a f, fZ H' a f = fZ H a f))) := by
          intro N
          induction N with
          | zero => intro v561 H562 hIH562 hJH562 m563 bv561 hmL564; exact absurd hmL564 (Nat.not_lt_zero _)
          | succ N ihL564 =>
            intro v561 H562 hIH562 hJH562 m563 bv561 hmL564
            refine g_iload_n rfl ?_
            refine g_bipush (by decide) (fun v565 kv565 => ?_)
            refine g_if2_ge (fun c566 => ?_) (fun c566 => ?_)
            · refine g_iconst (by decide) (fun v567 kv567 => ?_)
              refine g_istore_n (l' := [(0, .ref 0), (1, .int v567)]) rfl rfl ?_
              refine g_nop ?_
              have L571 : ∀ (N : Nat) (v568 : Int32) (H569 : mzH), gI SM H569 → JM H569 → (∀ a f, fZ H569 a f = fZ H a f) → (0 ≤ v568.toInt ∧ v568.toInt ≤ 40) → (40 - v568.toInt).toNat < N → gG 2 zB_235 (mzBlk zB_235 6) [(0, .ref 0), (1, .int v568)] [] H569 0 0 (gRv (fun H' => gI SM H' ∧ JM H' ∧ (∀ a f, fZ H' a f = fZ H a f))) := by
                intro N
                induction N with
                | zero => intro v568 H569 hIH569 hJH569 m570 bv568 hmL571; exact absurd hmL571 (Nat.not_lt_zero _)
                | succ N ihL571 =>
                  intro v568 H569 hIH569 hJH569 m570 bv568 hmL571
                  refine g_iload_n rfl ?_
                  refine g_bipush (by decide) (fun v572 kv572 => ?_)
                  refine g_if2_ge (fun c573 => ?_) (fun c573 => ?_)
                  · exact g_ret ⟨rfl, hIH569, hJH569, m570⟩
                  · refine g_aload_n rfl ?_
                    refine g_gfr hIH569 sm_0 rfl ?_
                    refine g_iload_n rfl ?_
                    refine g_baload hIH569 sm_7 rfl (by omega) (fun v574 ev574 lv574 uv574 => ?_)
                    refine g_if_eq (fun c575 => ?_) (fun c575 => ?_)
                    · refine g_iinc (l' := (fun v576 => [(0, .ref 0), (1, .int v576)])) rfl rfl (by decide) (by omega) (fun _ => rfl) (fun v576 ev576 => ?_)
                      refine g_goto ?_
                      exact ihL571 v576 H569 hIH569 hJH569 m570 (by omega) (by omega)
                    · refine g_aload_n rfl ?_
                      refine g_gfr hIH569 sm_0 rfl ?_
                      refine g_iload_n rfl ?_
                      refine g_baload hIH569 sm_16 rfl (by omega) (fun v577 ev577 lv577 uv577 => ?_)
                      refine g_if_ne (fun c578 => ?_) (fun c578 => ?_)
                      · refine g_iinc (l' := (fun v579 => [(0, .ref 0), (1, .int v579)])) rfl rfl (by decide) (by omega) (fun _ => rfl) (fun v579 ev579 => ?_)
                        refine g_goto ?_
                        exact ihL571 v579 H569 hIH569 hJH569 m570 (by omega) (by omega)
                      · refine g_aload_n rfl ?_
                        refine g_gfr hIH569 sm_0 rfl ?_
                        refine g_aload_n rfl ?_
                        refine g_iload_n rfl ?_
                        refine g_invvi hIH569 sm_0 rfl rfl rfl rfl (s_185 v568 (by omega) H569 hIH569 hJH569) (fun v582 H580 r581 => ?_)
                        obtain ⟨rfl, bv582⟩ := r581
                        refine g_baload hIH569 sm_21 rfl (by omega) (fun v583 ev583 lv583 uv583 => ?_)
                        refine g_if_eq (fun c584 => ?_) (fun c584 => ?_)
                        · refine g_iinc (l' := (fun v585 => [(0, .ref 0), (1, .int v585)])) rfl rfl (by decide) (by omega) (fun _ => rfl) (fun v585 ev585 => ?_)
                          refine g_goto ?_
                          exact ihL571 v585 H569 hIH569 hJH569 m570 (by omega) (by omega)
                        · refine g_aload_n rfl ?_
                          refine g_gfr hIH569 sm_0 rfl ?_
                          refine g_iload_n rfl ?_
                          refine g_iconst (by decide) (fun v586 kv586 => ?_)
                          refine g_zastore hIH569 sm_25 (by omega) (by omega) (fun H587 eH587 hIH587 => ?_)
                          have hJH587 : JM H587 := JM_sA (by decide) eH587 hJH569
                          have m588 : ∀ a f, fZ H587 a f = fZ H a f := fun a f => (by rw [eH587, fZ_sA] : fZ H587 a f = fZ H569 a f).trans (m570 a f)
                          refine g_nop ?_
                          refine g_iinc (l' := (fun v589 => [(0, .ref 0), (1, .int v589)])) rfl rfl (by decide) (by omega) (fun _ => rfl) (fun v589 ev589 => ?_)
                          refine g_goto ?_
                          exact ihL571 v589 H587 hIH587 hJH587 m588 (by omega) (by omega)
              exact L571 _ v567 H562 hIH562 hJH562 m563 (by omega) (Nat.lt_succ_self _)
            · refine g_aload_n rfl ?_
              refine g_gfr hIH562 sm_0 rfl ?_
              refine g_iload_n rfl ?_
              refine g_baload hIH562 sm_25 rfl (by omega) (fun v590 ev590 lv590 uv590 => ?_)
              refine g_if_eq (fun c591 => ?_) (fun c591 => ?_)
              · refine g_iinc (l' := (fun v592 => [(0, .ref 0), (1, .int v592)])) rfl rfl (by decide) (by omega) (fun _ => rfl) (fun v592 ev592 => ?_)
                refine g_goto ?_
                exact ihL564 v592 H562 hIH562 hJH562 m563 (by omega) (by omega)
              · refine g_aload_n rfl ?_
                refine g_gfr hIH562 sm_0 rfl ?_
                refine g_iload_n rfl ?_
                refine g_baload hIH562 sm_7 rfl (by omega) (fun v593 ev593 lv593 uv593 => ?_)
                refine g_if_eq (fun c594 => ?_) (fun c594 => ?_)
                · refine g_iinc (l' := (fun v595 => [(0, .ref 0), (1, .int v595)])) rfl rfl (by decide) (by omega) (fun _ => rfl) (fun v595 ev595 => ?_)
                  refine g_goto ?_
                  exact ihL564 v595 H562 hIH562 hJH562 m563 (by omega) (by omega)
                · refine g_aload_n rfl ?_
                  refine g_gfr hIH562 sm_0 rfl ?_
                  refine g_iload_n rfl ?_
                  refine g_baload hIH562 sm_16 rfl (by omega) (fun v596 ev596 lv596 uv596 => ?_)
                  refine g_if_ne (fun c597 => ?_) (fun c597 => ?_)
                  · refine g_iinc (l' := (fun v598 => [(0, .ref 0), (1, .int v598)])) rfl rfl (by decide) (by omega) (fun _ => rfl) (fun v598 ev598 => ?_)
                    refine g_goto ?_
                    exact ihL564 v598 H562 hIH562 hJH562 m563 (by omega) (by omega)
                  · refine g_aload_n rfl ?_
                    refine g_gfr hIH562 sm_0 rfl ?_
                    refine g_aload_n rfl ?_
                    refine g_iload_n rfl ?_
                    refine g_invvi hIH562 sm_0 rfl rfl rfl rfl (s_185 v561 (by omega) H562 hIH562 hJH562) (fun v601 H599 r600 => ?_)
                    obtain ⟨rfl, bv601⟩ := r600
                    refine g_iconst (by decide) (fun v602 kv602 => ?_)
                    refine g_zastore hIH562 sm_21 (by omega) (by omega) (fun H603 eH603 hIH603 => ?_)
                    have hJH603 : JM H603 := JM_sA (by decide) eH603 hJH562
                    have m604 : ∀ a f, fZ H603 a f = fZ H a f := fun a f => (by rw [eH603, fZ_sA] : fZ H603 a f = fZ H562 a f).trans (m563 a f)
                    refine g_nop ?_
                    refine g_iinc (l' := (fun v605 => [(0, .ref 0), (1, .int v605)])) rfl rfl (by decide) (by omega) (fun _ => rfl) (fun v605 ev605 => ?_)
                    refine g_goto ?_
                    exact ihL564 v605 H603 hIH603 hJH603 m604 (by omega) (by omega)
        exact L564 _ v560 H555 hIH555 hJH555 m556 (by omega) (Nat.lt_succ_self _)
      · refine g_aload_n rfl ?_
        refine g_gfr hIH555 sm_0 rfl ?_
        refine g_iload_n rfl ?_
        refine g_iconst (by decide) (fun v606 kv606 => ?_)
        refine g_zastore hIH555 sm_21 (by omega) (by omega) (fun H607 eH607 hIH607 => ?_)
        have hJH607 : JM H607 := JM_sA (by decide) eH607 hJH555
        have m608 : ∀ a f, fZ H607 a f = fZ H a f := fun a f => (by rw [eH607, fZ_sA] : fZ H607 a f = fZ H555 a f).trans (m556 a f)
        refine g_iinc (l' := (fun v609 => [(0, .ref 0), (1, .int v609)])) rfl rfl (by decide) (by omega) (fun _ => rfl) (fun v609 ev609 => ?_)
        refine g_goto ?_
        exact ihL557 v609 H607 hIH607 hJH607 m608 (by omega) (by omega)
  exact L557 _ v553 H hI hJ mkF (by omega) (Nat.lt_succ_self _)
set_option maxRecDepth 4000 in
set_option maxHeartbeats 4000000 in
/-- M.pick -/
theorem s_236 (a1 : Int32) (H : mzH) (hI : gI SM H) (hJ : JN H) : gCall 236 [.ref 25, .int a1] H (gRi (fun v H' => H = H')) := by
  refine gG_call [(0, .ref 25), (1, .int a1)] ⟨rfl, rfl, trivial⟩ ?_
  show gG 4 zB_236 (mzBlk zB_236 0) [(0, .ref 25), (1, .int a1)] [] H 0 0 _
  refine g_iload_n rfl ?_
  refine g_istore_n (l' := [(0, .ref 25), (1, .int a1), (2, .int a1)]) rfl rfl ?_
  refine g_iconst (by decide) (fun v141 kv141 => ?_)
  refine g_istore_n (l' := [(0, .ref 25), (1, .int a1), (2, .int a1), (3, .int v141)]) rfl rfl ?_
  refine g_nop ?_
  have L144 : ∀ (N : Nat) (v142 : Int32) (v143 : Int32), (0 ≤ v143.toInt ∧ v143.toInt ≤ 40) → (40 - v143.toInt).toNat < N → gG 4 zB_236 (mzBlk zB_236 1) [(0, .ref 25), (1, .int a1), (2, .int v142), (3, .int v143)] [] H 0 0 (gRi (fun v H' => H = H')) := by
    intro N
    induction N with
    | zero => intro v142 v143 bv143 hmL144; exact absurd hmL144 (Nat.not_lt_zero _)
    | succ N ihL144 =>
      intro v142 v143 bv143 hmL144
      refine g_iload_n rfl ?_
      refine g_bipush (by decide) (fun v145 kv145 => ?_)
      refine g_if2_ge (fun c146 => ?_) (fun c146 => ?_)
      · refine g_bipush (by decide) (fun v147 kv147 => ?_)
        exact g_iret ⟨_, rfl, rfl⟩
      · refine g_aload_n rfl ?_
        refine g_iload_n rfl ?_
        refine g_baload hI sm_25 rfl (by omega) (fun v148 ev148 lv148 uv148 => ?_)
        refine g_if_ne (fun c149 => ?_) (fun c149 => ?_)
        · refine g_iload_n rfl ?_
          refine g_if_ne (fun c150 => ?_) (fun c150 => ?_)
          · refine g_iinc' (l' := (fun v151 => [(0, .ref 25), (1, .int a1), (2, .int v151), (3, .int v143)])) rfl rfl (fun _ => rfl) (fun v151 => ?_)
            refine g_nop ?_
            refine g_iinc (l' := (fun v152 => [(0, .ref 25), (1, .int a1), (2, .int v151), (3, .int v152)])) rfl rfl (by decide) (by omega) (fun _ => rfl) (fun v152 ev152 => ?_)
            refine g_goto ?_
            exact ihL144 v151 v152 (by omega) (by omega)
          · refine g_iload_n rfl ?_
            exact g_iret ⟨_, rfl, rfl⟩
        · refine g_goto ?_
          refine g_iinc (l' := (fun v153 => [(0, .ref 25), (1, .int a1), (2, .int v142), (3, .int v153)])) rfl rfl (by decide) (by omega) (fun _ => rfl) (fun v153 ev153 => ?_)
          refine g_goto ?_
          exact ihL144 v142 v153 (by omega) (by omega)
  exact L144 _ a1 v141 (by omega) (Nat.lt_succ_self _)
set_option maxRecDepth 4000 in
set_option maxHeartbeats 4000000 in
/-- M.met -/
theorem s_237 (a1 : Int32) (a2 : Int32) (a3 : Int32) (H : mzH) (hI : gI SM H) (hJ : JN H) : gCall 237 [.ref 0, .int a1, .int a2, .int a3] H (gRi (fun v H' => gI SM H' ∧ JN H' ∧ fZ H' 0 2 = fZ H 0 2)) := by
  obtain ⟨k0_2, ek0_2⟩ : ∃ z, z = fZ H 0 2 := ⟨_, rfl⟩
  have ik0_2 : k0_2.toInt = (fZ H 0 2).toInt := by rw [← ek0_2]
  have bk0_2 : 0 ≤ k0_2.toInt ∧ k0_2.toInt ≤ 900 := by rw [ek0_2]; exact fZ_of hI sm_0 rfl
  refine gG_call [(0, .ref 0), (1, .int a1), (2, .int a2), (3, .int a3)] ⟨rfl, rfl, rfl, rfl, trivial⟩ ?_
  show gG 5 zB_237 (mzBlk zB_237 0) [(0, .ref 0), (1, .int a1), (2, .int a2), (3, .int a3)] [] H 0 0 _
  refine g_aload_n rfl ?_
  refine g_iconst (by decide) (fun v603 kv603 => ?_)
  refine g_pfi hI sm_0 rfl (gz_any _) (fun H604 eH604 hIH604 => ?_)
  have hJH604 : JN H604 := JN_sF eH604 hJ
  have e605 : k0_2 = fZ H604 0 2 := by rw [eH604, fZ_sF_ne (by decide)]; exact ek0_2
  refine g_iload_n rfl ?_
  refine g_invti rfl rfl rfl (s_205 a1 H604 hIH604 hJH604) (fun v608 H606 r607 => ?_)
  obtain ⟨rfl, bv608, p609⟩ := r607
  refine g_if_eq (fun c610 => ?_) (fun c610 => ?_)
  · refine g_iconst (by decide) (fun v611 kv611 => ?_)
    exact g_iret ⟨_, rfl, hIH604, hJH604, (e605.symm.trans ek0_2)⟩
  · refine g_iload_n rfl ?_
    refine g_invti rfl rfl rfl (s_206 a2 H604 hIH604 hJH604) (fun v614 H612 r613 => ?_)
    obtain ⟨rfl, bv614⟩ := r613
    refine g_if_eq (fun c615 => ?_) (fun c615 => ?_)
    · refine g_iconst (by decide) (fun v616 kv616 => ?_)
      exact g_iret ⟨_, rfl, hIH604, hJH604, (e605.symm.trans ek0_2)⟩
    · refine g_iload_n rfl ?_
      refine g_if_ge (fun c617 => ?_) (fun c617 => ?_)
      · refine g_aload_n rfl ?_
        refine g_iload_n rfl ?_
        refine g_invvv hIH604 sm_0 rfl rfl rfl rfl (s_200 a2 H604 hIH604 hJH604) (fun H618 r619 => ?_)
        obtain ⟨hIH618, hJH618, w620⟩ := r619
        have e621 : k0_2 = fZ H618 0 2 := e605.trans w620.symm
        refine g_aload_n rfl ?_
        refine g_gfr hIH618 sm_0 rfl ?_
        refine g_iload_n rfl ?_
        refine g_baload hIH618 sm_7 rfl (by omega) (fun v622 ev622 lv622 uv622 => ?_)
        refine g_if_eq (fun c623 => ?_) (fun c623 => ?_)
        · refine g_bipush (by decide) (fun v624 kv624 => ?_)
          exact g_iret ⟨_, rfl, hIH618, (JM_n hJH618), (e621.symm.trans ek0_2)⟩
        · refine g_aload_n rfl ?_
          refine g_gfr hIH618 sm_0 rfl ?_
          refine g_iload_n rfl ?_
          refine g_baload hIH618 sm_16 rfl (by omega) (fun v625 ev625 lv625 uv625 => ?_)
          refine g_if_eq (fun c626 => ?_) (fun c626 => ?_)
          · refine g_iconst (by decide) (fun v627 kv627 => ?_)
            refine g_istore (l' := [(0, .ref 0), (1, .int a1), (2, .int a2), (3, .int a3), (4, .int v627)]) rfl rfl ?_
            refine g_nop ?_
            have L631 : ∀ (N : Nat) (v628 : Int32) (H629 : mzH), gI SM H629 → JM H629 → k0_2 = fZ H629 0 2 → (0 ≤ v628.toInt ∧ v628.toInt ≤ 40) → (40 - v628.toInt).toNat < N → gG 5 zB_237 (mzBlk zB_237 5) [(0, .ref 0), (1, .int a1), (2, .int a2), (3, .int a3), (4, .int v628)] [] H629 0 0 (gRi (fun v H' => gI SM H' ∧ JN H' ∧ fZ H' 0 2 = fZ H 0 2)) := by
              intro N
              induction N with
              | zero => intro v628 H629 hIH629 hJH629 e630 bv628 hmL631; exact absurd hmL631 (Nat.not_lt_zero _)
              | succ N ihL631 =>
                intro v628 H629 hIH629 hJH629 e630 bv628 hmL631
                refine g_iload rfl ?_
                refine g_bipush (by decide) (fun v632 kv632 => ?_)
                refine g_if2_ge (fun c633 => ?_) (fun c633 => ?_)
                · refine g_aload_n rfl ?_
                  refine g_invvv hIH629 sm_0 rfl rfl rfl rfl (s_235 H629 hIH629 hJH629) (fun H634 r635 => ?_)
                  obtain ⟨hIH634, hJH634, m636⟩ := r635
                  have e637 : k0_2 = fZ H634 0 2 := e630.trans (m636 0 2).symm
                  refine g_iconst (by decide) (fun v638 kv638 => ?_)
                  refine g_istore (l' := [(0, .ref 0), (1, .int a1), (2, .int a2), (3, .int a3), (4, .int v638)]) rfl rfl ?_
                  refine g_nop ?_
                  have L642 : ∀ (N : Nat) (v639 : Int32) (H640 : mzH), gI SM H640 → JM H640 → k0_2 = fZ H640 0 2 → (0 ≤ v639.toInt ∧ v639.toInt ≤ 60) → (60 - v639.toInt).toNat < N → gG 5 zB_237 (mzBlk zB_237 9) [(0, .ref 0), (1, .int a1), (2, .int a2), (3, .int a3), (4, .int v639)] [] H640 0 0 (gRi (fun v H' => gI SM H' ∧ JN H' ∧ fZ H' 0 2 = fZ H 0 2)) := by
                    intro N
                    induction N with
                    | zero => intro v639 H640 hIH640 hJH640 e641 bv639 hmL642; exact absurd hmL642 (Nat.not_lt_zero _)
                    | succ N ihL642 =>
                      intro v639 H640 hIH640 hJH640 e641 bv639 hmL642
                      refine g_iload rfl ?_
                      refine g_aload_n rfl ?_
                      refine g_gfi hIH640 sm_0 rfl (fun v643 ev643 lv643 uv643 => ?_)
                      refine g_if2_ge (fun c644 => ?_) (fun c644 => ?_)
                      · refine g_aload_n rfl ?_
                        refine g_gfr hIH640 sm_0 rfl ?_
                        refine g_iload_n rfl ?_
                        refine g_invti rfl rfl rfl (s_236 a3 H640 hIH640 (JM_n hJH640)) (fun v647 H645 r646 => ?_)
                        obtain rfl := r646
                        exact g_iret ⟨_, rfl, hIH640, (JM_n hJH640), (e641.symm.trans ek0_2)⟩
                      · refine g_aload_n rfl ?_
                        refine g_gfr hIH640 sm_0 rfl ?_
                        refine g_aload_n rfl ?_
                        refine g_gfr hIH640 sm_0 rfl ?_
                        refine g_iload rfl ?_
                        refine g_iaload hIH640 sm_19 rfl (by omega) (fun v648 ev648 lv648 uv648 => ?_)
                        refine g_iaload hIH640 sm_18 rfl (by omega) (fun v649 ev649 lv649 uv649 => ?_)
                        refine g_iload_n rfl ?_
                        refine g_if2_gt (fun c650 => ?_) (fun c650 => ?_)
                        · refine g_aload_n rfl ?_
                          refine g_aload_n rfl ?_
                          refine g_gfr hIH640 sm_0 rfl ?_
                          refine g_iload rfl ?_
                          refine g_ialoadk hIH640 sm_19 rfl (by omega) ev648 ?_
                          refine g_invvv hIH640 sm_0 rfl rfl rfl rfl (s_192 v648 (by omega) H640 hIH640 hJH640) (fun H651 r652 => ?_)
                          obtain ⟨hIH651, hJH651, m653, m654, m655, m656⟩ := r652
                          have e657 : k0_2 = fZ H651 0 2 := e641.trans (m653 0 2).symm
                          refine g_aload_n rfl ?_
                          refine g_invvv hIH651 sm_0 rfl rfl rfl rfl (s_235 H651 hIH651 hJH651) (fun H658 r659 => ?_)
                          obtain ⟨hIH658, hJH658, m660⟩ := r659
                          have e661 : k0_2 = fZ H658 0 2 := e657.trans (m660 0 2).symm
                          refine g_nop ?_
                          refine g_iinc (l' := (fun v662 => [(0, .ref 0), (1, .int a1), (2, .int a2), (3, .int a3), (4, .int v662)])) rfl rfl (by decide) (by omega) (fun _ => rfl) (fun v662 ev662 => ?_)
                          refine g_goto ?_
                          exact ihL642 v662 H658 hIH658 hJH658 e661 (by omega) (by omega)
                        · refine g_goto ?_
                          refine g_iinc (l' := (fun v663 => [(0, .ref 0), (1, .int a1), (2, .int a2), (3, .int a3), (4, .int v663)])) rfl rfl (by decide) (by omega) (fun _ => rfl) (fun v663 ev663 => ?_)
                          refine g_goto ?_
                          exact ihL642 v663 H640 hIH640 hJH640 e641 (by omega) (by omega)
                  exact L642 _ v638 H634 hIH634 hJH634 e637 (by omega) (Nat.lt_succ_self _)
                · refine g_aload_n rfl ?_
                  refine g_gfr hIH629 sm_0 rfl ?_
                  refine g_iload rfl ?_
                  refine g_iload rfl ?_
                  refine g_iload_n rfl ?_
                  refine g_if2_ne (fun c664 => ?_) (fun c664 => ?_)
                  · refine g_iconst (by decide) (fun v665 kv665 => ?_)
                    refine g_nop ?_
                    refine g_zastore hIH629 sm_25 (by omega) (by omega) (fun H666 eH666 hIH666 => ?_)
                    have hJH666 : JM H666 := JM_sA (by decide) eH666 hJH629
                    have e667 : k0_2 = fZ H666 0 2 := by rw [eH666, fZ_sA]; exact e630
                    refine g_iinc (l' := (fun v668 => [(0, .ref 0), (1, .int a1), (2, .int a2), (3, .int a3), (4, .int v668)])) rfl rfl (by decide) (by omega) (fun _ => rfl) (fun v668 ev668 => ?_)
                    refine g_goto ?_
                    exact ihL631 v668 H666 hIH666 hJH666 e667 (by omega) (by omega)
                  · refine g_iconst (by decide) (fun v669 kv669 => ?_)
                    refine g_goto ?_
                    refine g_zastore hIH629 sm_25 (by omega) (by omega) (fun H670 eH670 hIH670 => ?_)
                    have hJH670 : JM H670 := JM_sA (by decide) eH670 hJH629
                    have e671 : k0_2 = fZ H670 0 2 := by rw [eH670, fZ_sA]; exact e630
                    refine g_iinc (l' := (fun v672 => [(0, .ref 0), (1, .int a1), (2, .int a2), (3, .int a3), (4, .int v672)])) rfl rfl (by decide) (by omega) (fun _ => rfl) (fun v672 ev672 => ?_)
                    refine g_goto ?_
                    exact ihL631 v672 H670 hIH670 hJH670 e671 (by omega) (by omega)
            exact L631 _ v627 H618 hIH618 hJH618 e621 (by omega) (Nat.lt_succ_self _)
          · refine g_nop ?_
            refine g_bipush (by decide) (fun v673 kv673 => ?_)
            exact g_iret ⟨_, rfl, hIH618, (JM_n hJH618), (e621.symm.trans ek0_2)⟩
      · refine g_nop ?_
        refine g_iconst (by decide) (fun v674 kv674 => ?_)
        exact g_iret ⟨_, rfl, hIH604, hJH604, (e605.symm.trans ek0_2)⟩
set_option maxRecDepth 4000 in
set_option maxHeartbeats 4000000 in
/-- M.adds -/
theorem s_238 (a1 : Int32) (H : mzH) (hI : gI SM H) (hJ : JM H) : gCall 238 [.ref 0, .int a1] H (gRv (fun H' => gI SM H' ∧ JM H' ∧ (∀ a f, fZ H' a f = fZ H a f))) := by
  have mkF : ∀ a f, fZ H a f = fZ H a f := fun _ _ => rfl
  refine gG_call [(0, .ref 0), (1, .int a1)] ⟨rfl, rfl, trivial⟩ ?_
  show gG 3 zB_238 (mzBlk zB_238 0) [(0, .ref 0), (1, .int a1)] [] H 0 0 _
  refine g_iconst (by decide) (fun v269 kv269 => ?_)
  refine g_istore_n (l' := [(0, .ref 0), (1, .int a1), (2, .int v269)]) rfl rfl ?_
  refine g_nop ?_
  have L273 : ∀ (N : Nat) (v270 : Int32) (H271 : mzH), gI SM H271 → JM H271 → (∀ a f, fZ H271 a f = fZ H a f) → (0 ≤ v270.toInt ∧ v270.toInt ≤ 40) → (40 - v270.toInt).toNat < N → gG 3 zB_238 (mzBlk zB_238 1) [(0, .ref 0), (1, .int a1), (2, .int v270)] [] H271 0 0 (gRv (fun H' => gI SM H' ∧ JM H' ∧ (∀ a f, fZ H' a f = fZ H a f))) := by
    intro N
    induction N with
    | zero => intro v270 H271 hIH271 hJH271 m272 bv270 hmL273; exact absurd hmL273 (Nat.not_lt_zero _)
    | succ N ihL273 =>
      intro v270 H271 hIH271 hJH271 m272 bv270 hmL273
      refine g_iload_n rfl ?_
      refine g_bipush (by decide) (fun v274 kv274 => ?_)
      refine g_if2_ge (fun c275 => ?_) (fun c275 => ?_)
      · exact g_ret ⟨rfl, hIH271, hJH271, m272⟩
      · refine g_aload_n rfl ?_
        refine g_gfr hIH271 sm_0 rfl ?_
        refine g_iload_n rfl ?_
        refine g_aload_n rfl ?_
        refine g_gfr hIH271 sm_0 rfl ?_
        refine g_iload_n rfl ?_
        refine g_baload hIH271 sm_25 rfl (by omega) (fun v276 ev276 lv276 uv276 => ?_)
        refine g_if_ne (fun c277 => ?_) (fun c277 => ?_)
        · refine g_iconst (by decide) (fun v278 kv278 => ?_)
          refine g_goto ?_
          refine g_zastore hIH271 sm_25 (by omega) (by omega) (fun H279 eH279 hIH279 => ?_)
          have hJH279 : JM H279 := JM_sA (by decide) eH279 hJH271
          have m280 : ∀ a f, fZ H279 a f = fZ H a f := fun a f => (by rw [eH279, fZ_sA] : fZ H279 a f = fZ H271 a f).trans (m272 a f)
          refine g_iinc (l' := (fun v281 => [(0, .ref 0), (1, .int a1), (2, .int v281)])) rfl rfl (by decide) (by omega) (fun _ => rfl) (fun v281 ev281 => ?_)
          refine g_goto ?_
          exact ihL273 v281 H279 hIH279 hJH279 m280 (by omega) (by omega)
        · refine g_aload_n rfl ?_
          refine g_iload_n rfl ?_
          refine g_iload_n rfl ?_
          refine g_invvi hIH271 sm_0 rfl rfl rfl rfl (s_186 v270 (by omega) a1 H271 hIH271 hJH271) (fun v284 H282 r283 => ?_)
          obtain ⟨rfl, bv284⟩ := r283
          refine g_if_eq (fun c285 => ?_) (fun c285 => ?_)
          · refine g_iconst (by decide) (fun v286 kv286 => ?_)
            refine g_nop ?_
            refine g_zastore hIH271 sm_25 (by omega) (by omega) (fun H287 eH287 hIH287 => ?_)
            have hJH287 : JM H287 := JM_sA (by decide) eH287 hJH271
            have m288 : ∀ a f, fZ H287 a f = fZ H a f := fun a f => (by rw [eH287, fZ_sA] : fZ H287 a f = fZ H271 a f).trans (m272 a f)
            refine g_iinc (l' := (fun v289 => [(0, .ref 0), (1, .int a1), (2, .int v289)])) rfl rfl (by decide) (by omega) (fun _ => rfl) (fun v289 ev289 => ?_)
            refine g_goto ?_
            exact ihL273 v289 H287 hIH287 hJH287 m288 (by omega) (by omega)
          · refine g_nop ?_
            refine g_iconst (by decide) (fun v290 kv290 => ?_)
            refine g_goto ?_
            refine g_zastore hIH271 sm_25 (by omega) (by omega) (fun H291 eH291 hIH291 => ?_)
            have hJH291 : JM H291 := JM_sA (by decide) eH291 hJH271
            have m292 : ∀ a f, fZ H291 a f = fZ H a f := fun a f => (by rw [eH291, fZ_sA] : fZ H291 a f = fZ H271 a f).trans (m272 a f)
            refine g_iinc (l' := (fun v293 => [(0, .ref 0), (1, .int a1), (2, .int v293)])) rfl rfl (by decide) (by omega) (fun _ => rfl) (fun v293 ev293 => ?_)
            refine g_goto ?_
            exact ihL273 v293 H291 hIH291 hJH291 m292 (by omega) (by omega)
  exact L273 _ v269 H hI hJ mkF (by omega) (Nat.lt_succ_self _)
set_option maxRecDepth 4000 in
set_option maxHeartbeats 4000000 in
/-- M.wereIn -/
theorem s_239 (a1 : Int32) (a2 : Int32) (a3 : Int32) (a4 : Int32) (H : mzH) (hI : gI SM H) (hJ : JN H) : gCall 239 [.ref 0, .int a1, .int a2, .int a3, .int a4] H (gRi (fun v H' => gI SM H' ∧ JN H' ∧ fZ H' 0 2 = fZ H 0 2)) := by
  obtain ⟨k0_2, ek0_2⟩ : ∃ z, z = fZ H 0 2 := ⟨_, rfl⟩
  have ik0_2 : k0_2.toInt = (fZ H 0 2).toInt := by rw [← ek0_2]
  have bk0_2 : 0 ≤ k0_2.toInt ∧ k0_2.toInt ≤ 900 := by rw [ek0_2]; exact fZ_of hI sm_0 rfl
  refine gG_call [(0, .ref 0), (1, .int a1), (2, .int a2), (3, .int a3), (4, .int a4)] ⟨rfl, rfl, rfl, rfl, rfl, trivial⟩ ?_
  show gG 7 zB_239 (mzBlk zB_239 0) [(0, .ref 0), (1, .int a1), (2, .int a2), (3, .int a3), (4, .int a4)] [] H 0 0 _
  refine g_aload_n rfl ?_
  refine g_iconst (by decide) (fun v613 kv613 => ?_)
  refine g_pfi hI sm_0 rfl (gz_any _) (fun H614 eH614 hIH614 => ?_)
  have hJH614 : JN H614 := JN_sF eH614 hJ
  have e615 : k0_2 = fZ H614 0 2 := by rw [eH614, fZ_sF_ne (by decide)]; exact ek0_2
  refine g_iload_n rfl ?_
  refine g_invti rfl rfl rfl (s_205 a1 H614 hIH614 hJH614) (fun v618 H616 r617 => ?_)
  obtain ⟨rfl, bv618, p619⟩ := r617
  refine g_if_eq (fun c620 => ?_) (fun c620 => ?_)
  · refine g_iconst (by decide) (fun v621 kv621 => ?_)
    exact g_iret ⟨_, rfl, hIH614, hJH614, (e615.symm.trans ek0_2)⟩
  · refine g_iload_n rfl ?_
    refine g_invti rfl rfl rfl (s_206 a2 H614 hIH614 hJH614) (fun v624 H622 r623 => ?_)
    obtain ⟨rfl, bv624⟩ := r623
    refine g_if_eq (fun c625 => ?_) (fun c625 => ?_)
    · refine g_iconst (by decide) (fun v626 kv626 => ?_)
      exact g_iret ⟨_, rfl, hIH614, hJH614, (e615.symm.trans ek0_2)⟩
    · refine g_iload_n rfl ?_
      refine g_invti rfl rfl rfl (s_206 a3 H614 hIH614 hJH614) (fun v629 H627 r628 => ?_)
      obtain ⟨rfl, bv629⟩ := r628
      refine g_if_eq (fun c630 => ?_) (fun c630 => ?_)
      · refine g_iconst (by decide) (fun v631 kv631 => ?_)
        exact g_iret ⟨_, rfl, hIH614, hJH614, (e615.symm.trans ek0_2)⟩
      · refine g_iload_n rfl ?_
        refine g_iload_n rfl ?_
        refine g_if2_lt (fun c632 => ?_) (fun c632 => ?_)
        · refine g_iconst (by decide) (fun v633 kv633 => ?_)
          exact g_iret ⟨_, rfl, hIH614, hJH614, (e615.symm.trans ek0_2)⟩
        · refine g_iload rfl ?_
          refine g_if_ge (fun c634 => ?_) (fun c634 => ?_)
          · refine g_aload_n rfl ?_
            refine g_iload_n rfl ?_
            refine g_invvv hIH614 sm_0 rfl rfl rfl rfl (s_200 a2 H614 hIH614 hJH614) (fun H635 r636 => ?_)
            obtain ⟨hIH635, hJH635, w637⟩ := r636
            have e638 : k0_2 = fZ H635 0 2 := e615.trans w637.symm
            refine g_iconst (by decide) (fun v639 kv639 => ?_)
            refine g_istore (l' := [(0, .ref 0), (1, .int a1), (2, .int a2), (3, .int a3), (4, .int a4), (5, .int v639)]) rfl rfl ?_
            refine g_nop ?_
            have L643 : ∀ (N : Nat) (v640 : Int32) (H641 : mzH), gI SM H641 → JM H641 → k0_2 = fZ H641 0 2 → (0 ≤ v640.toInt ∧ v640.toInt ≤ 40) → (40 - v640.toInt).toNat < N → gG 7 zB_239 (mzBlk zB_239 3) [(0, .ref 0), (1, .int a1), (2, .int a2), (3, .int a3), (4, .int a4), (5, .int v640)] [] H641 0 0 (gRi (fun v H' => gI SM H' ∧ JN H' ∧ fZ H' 0 2 = fZ H 0 2)) := by
              intro N
              induction N with
              | zero => intro v640 H641 hIH641 hJH641 e642 bv640 hmL643; exact absurd hmL643 (Nat.not_lt_zero _)
              | succ N ihL643 =>
                intro v640 H641 hIH641 hJH641 e642 bv640 hmL643
                refine g_iload rfl ?_
                refine g_bipush (by decide) (fun v644 kv644 => ?_)
                refine g_if2_ge (fun c645 => ?_) (fun c645 => ?_)
                · refine g_aload_n rfl ?_
                  refine g_iload_n rfl ?_
                  refine g_invvv hIH641 sm_0 rfl rfl rfl rfl (s_238 a1 H641 hIH641 hJH641) (fun H646 r647 => ?_)
                  obtain ⟨hIH646, hJH646, m648⟩ := r647
                  have e649 : k0_2 = fZ H646 0 2 := e642.trans (m648 0 2).symm
                  refine g_iconst (by decide) (fun v650 kv650 => ?_)
                  refine g_istore (l' := [(0, .ref 0), (1, .int a1), (2, .int a2), (3, .int a3), (4, .int a4), (5, .int v650)]) rfl rfl ?_
                  refine g_nop ?_
                  have L654 : ∀ (N : Nat) (v651 : Int32) (H652 : mzH), gI SM H652 → JM H652 → k0_2 = fZ H652 0 2 → (0 ≤ v651.toInt ∧ v651.toInt ≤ 60) → (60 - v651.toInt).toNat < N → gG 7 zB_239 (mzBlk zB_239 5) [(0, .ref 0), (1, .int a1), (2, .int a2), (3, .int a3), (4, .int a4), (5, .int v651)] [] H652 0 0 (gRi (fun v H' => gI SM H' ∧ JN H' ∧ fZ H' 0 2 = fZ H 0 2)) := by
                    intro N
                    induction N with
                    | zero => intro v651 H652 hIH652 hJH652 e653 bv651 hmL654; exact absurd hmL654 (Nat.not_lt_zero _)
                    | succ N ihL654 =>
                      intro v651 H652 hIH652 hJH652 e653 bv651 hmL654
                      refine g_iload rfl ?_
                      refine g_aload_n rfl ?_
                      refine g_gfi hIH652 sm_0 rfl (fun v655 ev655 lv655 uv655 => ?_)
                      refine g_if2_ge (fun c656 => ?_) (fun c656 => ?_)
                      · refine g_aload_n rfl ?_
                        refine g_gfr hIH652 sm_0 rfl ?_
                        refine g_iload rfl ?_
                        refine g_invti rfl rfl rfl (s_236 a4 H652 hIH652 (JM_n hJH652)) (fun v659 H657 r658 => ?_)
                        obtain rfl := r658
                        exact g_iret ⟨_, rfl, hIH652, (JM_n hJH652), (e653.symm.trans ek0_2)⟩
                      · refine g_aload_n rfl ?_
                        refine g_gfr hIH652 sm_0 rfl ?_
                        refine g_aload_n rfl ?_
                        refine g_gfr hIH652 sm_0 rfl ?_
                        refine g_iload rfl ?_
                        refine g_iaload hIH652 sm_19 rfl (by omega) (fun v660 ev660 lv660 uv660 => ?_)
                        refine g_iaload hIH652 sm_18 rfl (by omega) (fun v661 ev661 lv661 uv661 => ?_)
                        refine g_istore (l' := [(0, .ref 0), (1, .int a1), (2, .int a2), (3, .int a3), (4, .int a4), (5, .int v651), (6, .int v661)]) rfl rfl ?_
                        refine g_iload rfl ?_
                        refine g_iload_n rfl ?_
                        refine g_if2_le (fun c662 => ?_) (fun c662 => ?_)
                        · refine g_iinc (l' := (fun v663 => [(0, .ref 0), (1, .int a1), (2, .int a2), (3, .int a3), (4, .int a4), (5, .int v663), (6, .int v661)])) rfl rfl (by decide) (by omega) (fun _ => rfl) (fun v663 ev663 => ?_)
                          refine g_goto ?_
                          refine gG_pick [0, 1, 2, 3, 4, 5] (l' := [(0, .ref 0), (1, .int a1), (2, .int a2), (3, .int a3), (4, .int a4), (5, .int v663)]) rfl ?_
                          exact ihL654 v663 H652 hIH652 hJH652 e653 (by omega) (by omega)
                        · refine g_iload rfl ?_
                          refine g_iload_n rfl ?_
                          refine g_if2_le (fun c664 => ?_) (fun c664 => ?_)
                          · refine g_aload_n rfl ?_
                            refine g_aload_n rfl ?_
                            refine g_gfr hIH652 sm_0 rfl ?_
                            refine g_iload rfl ?_
                            refine g_ialoadk hIH652 sm_19 rfl (by omega) ev660 ?_
                            refine g_invvv hIH652 sm_0 rfl rfl rfl rfl (s_192 v660 (by omega) H652 hIH652 hJH652) (fun H665 r666 => ?_)
                            obtain ⟨hIH665, hJH665, m667, m668, m669, m670⟩ := r666
                            have e671 : k0_2 = fZ H665 0 2 := e653.trans (m667 0 2).symm
                            refine g_aload_n rfl ?_
                            refine g_iload_n rfl ?_
                            refine g_invvv hIH665 sm_0 rfl rfl rfl rfl (s_238 a1 H665 hIH665 hJH665) (fun H672 r673 => ?_)
                            obtain ⟨hIH672, hJH672, m674⟩ := r673
                            have e675 : k0_2 = fZ H672 0 2 := e671.trans (m674 0 2).symm
                            refine g_nop ?_
                            refine g_iinc (l' := (fun v676 => [(0, .ref 0), (1, .int a1), (2, .int a2), (3, .int a3), (4, .int a4), (5, .int v676), (6, .int v661)])) rfl rfl (by decide) (by omega) (fun _ => rfl) (fun v676 ev676 => ?_)
                            refine g_goto ?_
                            refine gG_pick [0, 1, 2, 3, 4, 5] (l' := [(0, .ref 0), (1, .int a1), (2, .int a2), (3, .int a3), (4, .int a4), (5, .int v676)]) rfl ?_
                            exact ihL654 v676 H672 hIH672 hJH672 e675 (by omega) (by omega)
                          · refine g_goto ?_
                            refine g_iinc (l' := (fun v677 => [(0, .ref 0), (1, .int a1), (2, .int a2), (3, .int a3), (4, .int a4), (5, .int v677), (6, .int v661)])) rfl rfl (by decide) (by omega) (fun _ => rfl) (fun v677 ev677 => ?_)
                            refine g_goto ?_
                            refine gG_pick [0, 1, 2, 3, 4, 5] (l' := [(0, .ref 0), (1, .int a1), (2, .int a2), (3, .int a3), (4, .int a4), (5, .int v677)]) rfl ?_
                            exact ihL654 v677 H652 hIH652 hJH652 e653 (by omega) (by omega)
                  exact L654 _ v650 H646 hIH646 hJH646 e649 (by omega) (Nat.lt_succ_self _)
                · refine g_aload_n rfl ?_
                  refine g_gfr hIH641 sm_0 rfl ?_
                  refine g_iload rfl ?_
                  refine g_iconst (by decide) (fun v678 kv678 => ?_)
                  refine g_zastore hIH641 sm_25 (by omega) (by omega) (fun H679 eH679 hIH679 => ?_)
                  have hJH679 : JM H679 := JM_sA (by decide) eH679 hJH641
                  have e680 : k0_2 = fZ H679 0 2 := by rw [eH679, fZ_sA]; exact e642
                  refine g_iinc (l' := (fun v681 => [(0, .ref 0), (1, .int a1), (2, .int a2), (3, .int a3), (4, .int a4), (5, .int v681)])) rfl rfl (by decide) (by omega) (fun _ => rfl) (fun v681 ev681 => ?_)
                  refine g_goto ?_
                  exact ihL643 v681 H679 hIH679 hJH679 e680 (by omega) (by omega)
            exact L643 _ v639 H635 hIH635 hJH635 e638 (by omega) (Nat.lt_succ_self _)
          · refine g_nop ?_
            refine g_iconst (by decide) (fun v682 kv682 => ?_)
            exact g_iret ⟨_, rfl, hIH614, hJH614, (e615.symm.trans ek0_2)⟩
set_option maxRecDepth 4000 in
set_option maxHeartbeats 4000000 in
/-- M.most -/
theorem s_240 (a1 : Int32) (H : mzH) (hI : gI SM H) (hJ : JN H) : gCall 240 [.ref 0, .int a1] H (gRi (fun v H' => gI SM H' ∧ JN H' ∧ fZ H' 0 2 = fZ H 0 2)) := by
  obtain ⟨k0_2, ek0_2⟩ : ∃ z, z = fZ H 0 2 := ⟨_, rfl⟩
  have ik0_2 : k0_2.toInt = (fZ H 0 2).toInt := by rw [← ek0_2]
  have bk0_2 : 0 ≤ k0_2.toInt ∧ k0_2.toInt ≤ 900 := by rw [ek0_2]; exact fZ_of hI sm_0 rfl
  refine gG_call [(0, .ref 0), (1, .int a1)] ⟨rfl, rfl, trivial⟩ ?_
  show gG 4 zB_240 (mzBlk zB_240 0) [(0, .ref 0), (1, .int a1)] [] H 0 0 _
  refine g_aload_n rfl ?_
  refine g_iconst (by decide) (fun v433 kv433 => ?_)
  refine g_pfi hI sm_0 rfl (gz_any _) (fun H434 eH434 hIH434 => ?_)
  have hJH434 : JN H434 := JN_sF eH434 hJ
  have e435 : k0_2 = fZ H434 0 2 := by rw [eH434, fZ_sF_ne (by decide)]; exact ek0_2
  refine g_iload_n rfl ?_
  refine g_invti rfl rfl rfl (s_205 a1 H434 hIH434 hJH434) (fun v438 H436 r437 => ?_)
  obtain ⟨rfl, bv438, p439⟩ := r437
  refine g_if_ne (fun c440 => ?_) (fun c440 => ?_)
  · refine g_aload_n rfl ?_
    refine g_invvv hIH434 sm_0 rfl rfl rfl rfl (s_182 H434 hIH434 hJH434) (fun H441 r442 => ?_)
    obtain ⟨hIH441, hJH441, m443, m444, p445⟩ := r442
    have e446 : k0_2 = fZ H441 0 2 := e435.trans (m443 0 2).symm
    refine g_aload_n rfl ?_
    refine g_invvv hIH441 sm_0 rfl rfl rfl rfl (s_184 H441 hIH441 hJH441) (fun H447 r448 => ?_)
    obtain ⟨hIH447, hJH447, w449, m450, m451, p452⟩ := r448
    have e453 : k0_2 = fZ H447 0 2 := e446.trans w449.symm
    refine g_iconst (by decide) (fun v454 kv454 => ?_)
    refine g_istore_n (l' := [(0, .ref 0), (1, .int a1), (2, .int v454)]) rfl rfl ?_
    refine g_iconst (by decide) (fun v455 kv455 => ?_)
    refine g_istore_n (l' := [(0, .ref 0), (1, .int a1), (2, .int v454), (3, .int v455)]) rfl rfl ?_
    refine g_nop ?_
    have L460 : ∀ (N : Nat) (v456 : Int32) (v457 : Int32) (H458 : mzH), gI SM H458 → JM H458 → k0_2 = fZ H458 0 2 → (0 ≤ v457.toInt ∧ v457.toInt ≤ 60) → (60 - v457.toInt).toNat < N → gG 4 zB_240 (mzBlk zB_240 2) [(0, .ref 0), (1, .int a1), (2, .int v456), (3, .int v457)] [] H458 0 0 (gRi (fun v H' => gI SM H' ∧ JN H' ∧ fZ H' 0 2 = fZ H 0 2)) := by
      intro N
      induction N with
      | zero => intro v456 v457 H458 hIH458 hJH458 e459 bv457 hmL460; exact absurd hmL460 (Nat.not_lt_zero _)
      | succ N ihL460 =>
        intro v456 v457 H458 hIH458 hJH458 e459 bv457 hmL460
        refine g_iload_n rfl ?_
        refine g_aload_n rfl ?_
        refine g_gfi hIH458 sm_0 rfl (fun v461 ev461 lv461 uv461 => ?_)
        refine g_if2_ge (fun c462 => ?_) (fun c462 => ?_)
        · refine g_aload_n rfl ?_
          refine g_gfr hIH458 sm_0 rfl ?_
          refine g_iload_n rfl ?_
          refine g_baload hIH458 sm_7 rfl (by omega) (fun v463 ev463 lv463 uv463 => ?_)
          refine g_if_eq (fun c464 => ?_) (fun c464 => ?_)
          · refine g_bipush (by decide) (fun v465 kv465 => ?_)
            refine g_nop ?_
            exact g_iret ⟨_, rfl, hIH458, (JM_n hJH458), (e459.symm.trans ek0_2)⟩
          · refine g_iload_n rfl ?_
            refine g_goto ?_
            exact g_iret ⟨_, rfl, hIH458, (JM_n hJH458), (e459.symm.trans ek0_2)⟩
        · refine g_aload_n rfl ?_
          refine g_aload_n rfl ?_
          refine g_gfr hIH458 sm_0 rfl ?_
          refine g_iload_n rfl ?_
          refine g_iaload hIH458 sm_19 rfl (by omega) (fun v466 ev466 lv466 uv466 => ?_)
          refine g_invvv hIH458 sm_0 rfl rfl rfl rfl (s_192 v466 (by omega) H458 hIH458 hJH458) (fun H467 r468 => ?_)
          obtain ⟨hIH467, hJH467, m469, m470, m471, m472⟩ := r468
          have e473 : k0_2 = fZ H467 0 2 := e459.trans (m469 0 2).symm
          refine g_aload_n rfl ?_
          refine g_iload_n rfl ?_
          refine g_invvi hIH467 sm_0 rfl rfl rfl rfl (s_207 a1 H467 hIH467 hJH467) (fun v476 H474 r475 => ?_)
          obtain rfl := r475
          refine g_iload_n rfl ?_
          refine g_if2_le (fun c477 => ?_) (fun c477 => ?_)
          · refine g_iload_n rfl ?_
            refine g_nop ?_
            refine g_istore_n (l' := [(0, .ref 0), (1, .int a1), (2, .int v456), (3, .int v457)]) rfl rfl ?_
            refine g_iinc (l' := (fun v478 => [(0, .ref 0), (1, .int a1), (2, .int v456), (3, .int v478)])) rfl rfl (by decide) (by omega) (fun _ => rfl) (fun v478 ev478 => ?_)
            refine g_goto ?_
            exact ihL460 v456 v478 H467 hIH467 hJH467 e473 (by omega) (by omega)
          · refine g_aload_n rfl ?_
            refine g_iload_n rfl ?_
            refine g_invvi hIH467 sm_0 rfl rfl rfl rfl (s_207 a1 H467 hIH467 hJH467) (fun v481 H479 r480 => ?_)
            obtain rfl := r480
            refine g_goto ?_
            refine g_istore_n (l' := [(0, .ref 0), (1, .int a1), (2, .int v481), (3, .int v457)]) rfl rfl ?_
            refine g_iinc (l' := (fun v482 => [(0, .ref 0), (1, .int a1), (2, .int v481), (3, .int v482)])) rfl rfl (by decide) (by omega) (fun _ => rfl) (fun v482 ev482 => ?_)
            refine g_goto ?_
            exact ihL460 v481 v482 H467 hIH467 hJH467 e473 (by omega) (by omega)
    exact L460 _ v454 v455 H447 hIH447 hJH447 e453 (by omega) (Nat.lt_succ_self _)
  · refine g_iconst (by decide) (fun v483 kv483 => ?_)
    exact g_iret ⟨_, rfl, hIH434, hJH434, (e435.symm.trans ek0_2)⟩
set_option maxRecDepth 4000 in
set_option maxHeartbeats 4000000 in
/-- M.bitsIn -/
theorem s_241 (a1 : Int32) (H : mzH) (hI : gI SM H) (hJ : JM H) : gCall 241 [.ref 0, .int a1] H (gRl (fun _ H' => H = H')) := by
  refine gG_call [(0, .ref 0), (1, .int a1)] ⟨rfl, rfl, trivial⟩ ?_
  show gG 5 zB_241 (mzBlk zB_241 0) [(0, .ref 0), (1, .int a1)] [] H 0 0 _
  refine g_lconst (fun v177 _ => ?_)
  refine g_lstore_n (l' := [(0, .ref 0), (1, .int a1), (2, .long v177)]) rfl rfl ?_
  refine g_iconst (by decide) (fun v178 kv178 => ?_)
  refine g_istore (l' := [(0, .ref 0), (1, .int a1), (2, .long v177), (4, .int v178)]) rfl rfl ?_
  refine g_nop ?_
  have L181 : ∀ (N : Nat) (v179 : Int64) (v180 : Int32), (0 ≤ v180.toInt ∧ v180.toInt ≤ 40) → (40 - v180.toInt).toNat < N → gG 5 zB_241 (mzBlk zB_241 1) [(0, .ref 0), (1, .int a1), (2, .long v179), (4, .int v180)] [] H 0 0 (gRl (fun _ H' => H = H')) := by
    intro N
    induction N with
    | zero => intro v179 v180 bv180 hmL181; exact absurd hmL181 (Nat.not_lt_zero _)
    | succ N ihL181 =>
      intro v179 v180 bv180 hmL181
      refine g_iload rfl ?_
      refine g_bipush (by decide) (fun v182 kv182 => ?_)
      refine g_if2_ge (fun c183 => ?_) (fun c183 => ?_)
      · refine g_lload_n rfl ?_
        exact g_lret ⟨_, rfl, rfl⟩
      · refine g_aload_n rfl ?_
        refine g_iload rfl ?_
        refine g_iload_n rfl ?_
        refine g_invvi hI sm_0 rfl rfl rfl rfl (s_186 v180 (by omega) a1 H hI hJ) (fun v186 H184 r185 => ?_)
        obtain ⟨rfl, bv186⟩ := r185
        refine g_if_eq (fun c187 => ?_) (fun c187 => ?_)
        · refine g_iinc (l' := (fun v188 => [(0, .ref 0), (1, .int a1), (2, .long v179), (4, .int v188)])) rfl rfl (by decide) (by omega) (fun _ => rfl) (fun v188 ev188 => ?_)
          refine g_goto ?_
          exact ihL181 v179 v188 (by omega) (by omega)
        · refine g_lload_n rfl ?_
          refine g_lconst (fun v189 _ => ?_)
          refine g_iload rfl ?_
          refine g_lshl (fun v190 _ => ?_)
          refine g_lor (fun v191 _ => ?_)
          refine g_lstore_n (l' := [(0, .ref 0), (1, .int a1), (2, .long v191), (4, .int v180)]) rfl rfl ?_
          refine g_nop ?_
          refine g_iinc (l' := (fun v192 => [(0, .ref 0), (1, .int a1), (2, .long v191), (4, .int v192)])) rfl rfl (by decide) (by omega) (fun _ => rfl) (fun v192 ev192 => ?_)
          refine g_goto ?_
          exact ihL181 v191 v192 (by omega) (by omega)
  exact L181 _ v177 v178 (by omega) (Nat.lt_succ_self _)
set_option maxRecDepth 4000 in
set_option maxHeartbeats 4000000 in
/-- M.still -/
theorem s_242 (a1 : Int32) (a2 : Int32) (H : mzH) (hI : gI SM H) (hJ : JN H) : gCall 242 [.ref 0, .int a1, .int a2] H (gRi (fun v H' => gI SM H' ∧ JN H' ∧ fZ H' 0 2 = fZ H 0 2)) := by
  obtain ⟨k0_2, ek0_2⟩ : ∃ z, z = fZ H 0 2 := ⟨_, rfl⟩
  have ik0_2 : k0_2.toInt = (fZ H 0 2).toInt := by rw [← ek0_2]
  have bk0_2 : 0 ≤ k0_2.toInt ∧ k0_2.toInt ≤ 900 := by rw [ek0_2]; exact fZ_of hI sm_0 rfl
  refine gG_call [(0, .ref 0), (1, .int a1), (2, .int a2)] ⟨rfl, rfl, rfl, trivial⟩ ?_
  show gG 8 zB_242 (mzBlk zB_242 0) [(0, .ref 0), (1, .int a1), (2, .int a2)] [] H 0 0 _
  refine g_aload_n rfl ?_
  refine g_iconst (by decide) (fun v775 kv775 => ?_)
  refine g_pfi hI sm_0 rfl (gz_any _) (fun H776 eH776 hIH776 => ?_)
  have hJH776 : JN H776 := JN_sF eH776 hJ
  have e777 : k0_2 = fZ H776 0 2 := by rw [eH776, fZ_sF_ne (by decide)]; exact ek0_2
  refine g_iload_n rfl ?_
  refine g_invti rfl rfl rfl (s_205 a1 H776 hIH776 hJH776) (fun v780 H778 r779 => ?_)
  obtain ⟨rfl, bv780, p781⟩ := r779
  refine g_if_eq (fun c782 => ?_) (fun c782 => ?_)
  · refine g_iconst (by decide) (fun v783 kv783 => ?_)
    exact g_iret ⟨_, rfl, hIH776, hJH776, (e777.symm.trans ek0_2)⟩
  · refine g_iload_n rfl ?_
    refine g_invti rfl rfl rfl (s_206 a2 H776 hIH776 hJH776) (fun v786 H784 r785 => ?_)
    obtain ⟨rfl, bv786⟩ := r785
    refine g_if_ne (fun c787 => ?_) (fun c787 => ?_)
    · refine g_aload_n rfl ?_
      refine g_invvv hIH776 sm_0 rfl rfl rfl rfl (s_182 H776 hIH776 hJH776) (fun H788 r789 => ?_)
      obtain ⟨hIH788, hJH788, m790, m791, p792⟩ := r789
      have e793 : k0_2 = fZ H788 0 2 := e777.trans (m790 0 2).symm
      refine g_aload_n rfl ?_
      refine g_invvv hIH788 sm_0 rfl rfl rfl rfl (s_184 H788 hIH788 hJH788) (fun H794 r795 => ?_)
      obtain ⟨hIH794, hJH794, w796, m797, m798, p799⟩ := r795
      have e800 : k0_2 = fZ H794 0 2 := e793.trans w796.symm
      refine g_bipush (by decide) (fun v801 kv801 => ?_)
      refine g_istore_n (l' := [(0, .ref 0), (1, .int a1), (2, .int a2), (3, .int v801)]) rfl rfl ?_
      refine g_iconst (by decide) (fun v802 kv802 => ?_)
      refine g_istore (l' := [(0, .ref 0), (1, .int a1), (2, .int a2), (3, .int v801), (4, .int v802)]) rfl rfl ?_
      refine g_nop ?_
      have L807 : ∀ (N : Nat) (v803 : Int32) (v804 : Int32) (H805 : mzH), gI SM H805 → JM H805 → k0_2 = fZ H805 0 2 → (0 ≤ v804.toInt ∧ v804.toInt ≤ 60) → (60 - v804.toInt).toNat < N → gG 8 zB_242 (mzBlk zB_242 3) [(0, .ref 0), (1, .int a1), (2, .int a2), (3, .int v803), (4, .int v804)] [] H805 0 0 (gRi (fun v H' => gI SM H' ∧ JN H' ∧ fZ H' 0 2 = fZ H 0 2)) := by
        intro N
        induction N with
        | zero => intro v803 v804 H805 hIH805 hJH805 e806 bv804 hmL807; exact absurd hmL807 (Nat.not_lt_zero _)
        | succ N ihL807 =>
          intro v803 v804 H805 hIH805 hJH805 e806 bv804 hmL807
          refine g_iload rfl ?_
          refine g_aload_n rfl ?_
          refine g_gfi hIH805 sm_0 rfl (fun v808 ev808 lv808 uv808 => ?_)
          refine g_if2_ge (fun c809 => ?_) (fun c809 => ?_)
          · refine g_aload_n rfl ?_
            refine g_gfr hIH805 sm_0 rfl ?_
            refine g_iload_n rfl ?_
            refine g_baload hIH805 sm_7 rfl (by omega) (fun v810 ev810 lv810 uv810 => ?_)
            refine g_if_ne (fun c811 => ?_) (fun c811 => ?_)
            · refine g_aload_n rfl ?_
              refine g_gfr hIH805 sm_0 rfl ?_
              refine g_iload_n rfl ?_
              refine g_baload hIH805 sm_16 rfl (by omega) (fun v812 ev812 lv812 uv812 => ?_)
              refine g_if_eq (fun c813 => ?_) (fun c813 => ?_)
              · refine g_iload_n rfl ?_
                refine g_nop ?_
                exact g_iret ⟨_, rfl, hIH805, (JM_n hJH805), (e806.symm.trans ek0_2)⟩
              · refine g_bipush (by decide) (fun v814 kv814 => ?_)
                refine g_goto ?_
                exact g_iret ⟨_, rfl, hIH805, (JM_n hJH805), (e806.symm.trans ek0_2)⟩
            · refine g_bipush (by decide) (fun v815 kv815 => ?_)
              refine g_goto ?_
              exact g_iret ⟨_, rfl, hIH805, (JM_n hJH805), (e806.symm.trans ek0_2)⟩
          · refine g_aload_n rfl ?_
            refine g_gfr hIH805 sm_0 rfl ?_
            refine g_aload_n rfl ?_
            refine g_gfr hIH805 sm_0 rfl ?_
            refine g_iload rfl ?_
            refine g_iaload hIH805 sm_19 rfl (by omega) (fun v816 ev816 lv816 uv816 => ?_)
            refine g_iaload hIH805 sm_18 rfl (by omega) (fun v817 ev817 lv817 uv817 => ?_)
            refine g_iload_n rfl ?_
            refine g_if2_gt (fun c818 => ?_) (fun c818 => ?_)
            · refine g_aload_n rfl ?_
              refine g_gfr hIH805 sm_0 rfl ?_
              refine g_iload_n rfl ?_
              refine g_baload hIH805 sm_7 rfl (by omega) (fun v819 ev819 lv819 uv819 => ?_)
              refine g_if_ne (fun c820 => ?_) (fun c820 => ?_)
              · refine g_aload_n rfl ?_
                refine g_gfr hIH805 sm_0 rfl ?_
                refine g_iload_n rfl ?_
                refine g_baload hIH805 sm_16 rfl (by omega) (fun v821 ev821 lv821 uv821 => ?_)
                refine g_if_eq (fun c822 => ?_) (fun c822 => ?_)
                · refine g_iload_n rfl ?_
                  refine g_nop ?_
                  exact g_iret ⟨_, rfl, hIH805, (JM_n hJH805), (e806.symm.trans ek0_2)⟩
                · refine g_bipush (by decide) (fun v823 kv823 => ?_)
                  refine g_goto ?_
                  exact g_iret ⟨_, rfl, hIH805, (JM_n hJH805), (e806.symm.trans ek0_2)⟩
              · refine g_bipush (by decide) (fun v824 kv824 => ?_)
                refine g_goto ?_
                exact g_iret ⟨_, rfl, hIH805, (JM_n hJH805), (e806.symm.trans ek0_2)⟩
            · refine g_aload_n rfl ?_
              refine g_gfr hIH805 sm_0 rfl ?_
              refine g_iload_n rfl ?_
              refine g_baload hIH805 sm_7 rfl (by omega) (fun v825 ev825 lv825 uv825 => ?_)
              refine g_istore (l' := [(0, .ref 0), (1, .int a1), (2, .int a2), (3, .int v803), (4, .int v804), (5, .int v825)]) rfl rfl ?_
              refine g_aload_n rfl ?_
              refine g_iload_n rfl ?_
              refine g_invvl hIH805 sm_0 rfl rfl rfl rfl (s_241 a1 H805 hIH805 hJH805) (fun v828 H826 r827 => ?_)
              obtain rfl := r827
              refine g_lstore (l' := [(0, .ref 0), (1, .int a1), (2, .int a2), (3, .int v803), (4, .int v804), (5, .int v825), (6, .long v828)]) rfl rfl ?_
              refine g_aload_n rfl ?_
              refine g_aload_n rfl ?_
              refine g_gfr hIH805 sm_0 rfl ?_
              refine g_iload rfl ?_
              refine g_ialoadk hIH805 sm_19 rfl (by omega) ev816 ?_
              refine g_invvv hIH805 sm_0 rfl rfl rfl rfl (s_192 v816 (by omega) H805 hIH805 hJH805) (fun H829 r830 => ?_)
              obtain ⟨hIH829, hJH829, m831, m832, m833, m834⟩ := r830
              have e835 : k0_2 = fZ H829 0 2 := e806.trans (m831 0 2).symm
              refine g_aload_n rfl ?_
              refine g_gfr hIH829 sm_0 rfl ?_
              refine g_iload_n rfl ?_
              refine g_baload hIH829 sm_7 rfl (by omega) (fun v836 ev836 lv836 uv836 => ?_)
              refine g_if_eq (fun c837 => ?_) (fun c837 => ?_)
              · refine g_iinc (l' := (fun v838 => [(0, .ref 0), (1, .int a1), (2, .int a2), (3, .int v803), (4, .int v838), (5, .int v825), (6, .long v828)])) rfl rfl (by decide) (by omega) (fun _ => rfl) (fun v838 ev838 => ?_)
                refine g_goto ?_
                refine gG_pick [0, 1, 2, 3, 4] (l' := [(0, .ref 0), (1, .int a1), (2, .int a2), (3, .int v803), (4, .int v838)]) rfl ?_
                exact ihL807 v803 v838 H829 hIH829 hJH829 e835 (by omega) (by omega)
              · refine g_iload rfl ?_
                refine g_if_eq (fun c839 => ?_) (fun c839 => ?_)
                · refine g_aload_n rfl ?_
                  refine g_gfr hIH829 sm_0 rfl ?_
                  refine g_aload_n rfl ?_
                  refine g_gfr hIH829 sm_0 rfl ?_
                  refine g_iload rfl ?_
                  refine g_iaload hIH829 sm_19 rfl (by omega) (fun v840 ev840 lv840 uv840 => ?_)
                  refine g_iaload hIH829 sm_18 rfl (by omega) (fun v841 ev841 lv841 uv841 => ?_)
                  refine g_istore_n (l' := [(0, .ref 0), (1, .int a1), (2, .int a2), (3, .int v841), (4, .int v804), (5, .int v825), (6, .long v828)]) rfl rfl ?_
                  refine g_nop ?_
                  refine g_iinc (l' := (fun v842 => [(0, .ref 0), (1, .int a1), (2, .int a2), (3, .int v841), (4, .int v842), (5, .int v825), (6, .long v828)])) rfl rfl (by decide) (by omega) (fun _ => rfl) (fun v842 ev842 => ?_)
                  refine g_goto ?_
                  refine gG_pick [0, 1, 2, 3, 4] (l' := [(0, .ref 0), (1, .int a1), (2, .int a2), (3, .int v841), (4, .int v842)]) rfl ?_
                  exact ihL807 v841 v842 H829 hIH829 hJH829 e835 (by omega) (by omega)
                · refine g_aload_n rfl ?_
                  refine g_iload_n rfl ?_
                  refine g_invvl hIH829 sm_0 rfl rfl rfl rfl (s_241 a1 H829 hIH829 hJH829) (fun v845 H843 r844 => ?_)
                  obtain rfl := r844
                  refine g_lload rfl ?_
                  refine g_lcmp (fun v846 _ => ?_)
                  refine g_if_eq (fun c847 => ?_) (fun c847 => ?_)
                  · refine g_iinc (l' := (fun v848 => [(0, .ref 0), (1, .int a1), (2, .int a2), (3, .int v803), (4, .int v848), (5, .int v825), (6, .long v828)])) rfl rfl (by decide) (by omega) (fun _ => rfl) (fun v848 ev848 => ?_)
                    refine g_goto ?_
                    refine gG_pick [0, 1, 2, 3, 4] (l' := [(0, .ref 0), (1, .int a1), (2, .int a2), (3, .int v803), (4, .int v848)]) rfl ?_
                    exact ihL807 v803 v848 H829 hIH829 hJH829 e835 (by omega) (by omega)
                  · refine g_nop ?_
                    refine g_aload_n rfl ?_
                    refine g_gfr hIH829 sm_0 rfl ?_
                    refine g_aload_n rfl ?_
                    refine g_gfr hIH829 sm_0 rfl ?_
                    refine g_iload rfl ?_
                    refine g_iaload hIH829 sm_19 rfl (by omega) (fun v849 ev849 lv849 uv849 => ?_)
                    refine g_iaload hIH829 sm_18 rfl (by omega) (fun v850 ev850 lv850 uv850 => ?_)
                    refine g_istore_n (l' := [(0, .ref 0), (1, .int a1), (2, .int a2), (3, .int v850), (4, .int v804), (5, .int v825), (6, .long v828)]) rfl rfl ?_
                    refine g_nop ?_
                    refine g_iinc (l' := (fun v851 => [(0, .ref 0), (1, .int a1), (2, .int a2), (3, .int v850), (4, .int v851), (5, .int v825), (6, .long v828)])) rfl rfl (by decide) (by omega) (fun _ => rfl) (fun v851 ev851 => ?_)
                    refine g_goto ?_
                    refine gG_pick [0, 1, 2, 3, 4] (l' := [(0, .ref 0), (1, .int a1), (2, .int a2), (3, .int v850), (4, .int v851)]) rfl ?_
                    exact ihL807 v850 v851 H829 hIH829 hJH829 e835 (by omega) (by omega)
      exact L807 _ v801 v802 H794 hIH794 hJH794 e800 (by omega) (Nat.lt_succ_self _)
    · refine g_nop ?_
      refine g_iconst (by decide) (fun v852 kv852 => ?_)
      exact g_iret ⟨_, rfl, hIH776, hJH776, (e777.symm.trans ek0_2)⟩
set_option maxRecDepth 4000 in
set_option maxHeartbeats 4000000 in
/-- M.components -/
theorem s_243 (a1 : Int32) (a2 : Int32) (H : mzH) (hI : gI SM H) (hJ : JN H) : gCall 243 [.ref 0, .int a1, .int a2] H (gRi (fun v H' => gI SM H' ∧ JN H' ∧ fZ H' 0 2 = fZ H 0 2)) := by
  obtain ⟨k0_2, ek0_2⟩ : ∃ z, z = fZ H 0 2 := ⟨_, rfl⟩
  have ik0_2 : k0_2.toInt = (fZ H 0 2).toInt := by rw [← ek0_2]
  have bk0_2 : 0 ≤ k0_2.toInt ∧ k0_2.toInt ≤ 900 := by rw [ek0_2]; exact fZ_of hI sm_0 rfl
  refine gG_call [(0, .ref 0), (1, .int a1), (2, .int a2)] ⟨rfl, rfl, rfl, trivial⟩ ?_
  show gG 6 zB_243 (mzBlk zB_243 0) [(0, .ref 0), (1, .int a1), (2, .int a2)] [] H 0 0 _
  refine g_aload_n rfl ?_
  refine g_iconst (by decide) (fun v1491 kv1491 => ?_)
  refine g_pfi hI sm_0 rfl (gz_any _) (fun H1492 eH1492 hIH1492 => ?_)
  have hJH1492 : JN H1492 := JN_sF eH1492 hJ
  have e1493 : k0_2 = fZ H1492 0 2 := by rw [eH1492, fZ_sF_ne (by decide)]; exact ek0_2
  refine g_aload_n rfl ?_
  refine g_iload_n rfl ?_
  refine g_invvi hIH1492 sm_0 rfl rfl rfl rfl (s_210 a1 H1492 hIH1492 hJH1492) (fun v1496 H1494 r1495 => ?_)
  obtain ⟨rfl, bv1496, p1497⟩ := r1495
  refine g_if_eq (fun c1498 => ?_) (fun c1498 => ?_)
  · refine g_iconst (by decide) (fun v1499 kv1499 => ?_)
    exact g_iret ⟨_, rfl, hIH1492, hJH1492, (e1493.symm.trans ek0_2)⟩
  · refine g_iload_n rfl ?_
    refine g_invti rfl rfl rfl (s_206 a2 H1492 hIH1492 hJH1492) (fun v1502 H1500 r1501 => ?_)
    obtain ⟨rfl, bv1502⟩ := r1501
    refine g_if_ne (fun c1503 => ?_) (fun c1503 => ?_)
    · refine g_aload_n rfl ?_
      refine g_iload_n rfl ?_
      refine g_invvv hIH1492 sm_0 rfl rfl rfl rfl (s_200 a2 H1492 hIH1492 hJH1492) (fun H1504 r1505 => ?_)
      obtain ⟨hIH1504, hJH1504, w1506⟩ := r1505
      have e1507 : k0_2 = fZ H1504 0 2 := e1493.trans w1506.symm
      refine g_iconst (by decide) (fun v1508 kv1508 => ?_)
      refine g_istore_n (l' := [(0, .ref 0), (1, .int a1), (2, .int a2), (3, .int v1508)]) rfl rfl ?_
      refine g_iconst (by decide) (fun v1509 kv1509 => ?_)
      refine g_istore (l' := [(0, .ref 0), (1, .int a1), (2, .int a2), (3, .int v1508), (4, .int v1509)]) rfl rfl ?_
      refine g_nop ?_
      have L1512 : ∀ (N : Nat) (v1510 : Int32) (v1511 : Int32), (0 ≤ v1511.toInt ∧ v1511.toInt ≤ 40) → (40 - v1511.toInt).toNat < N → gG 6 zB_243 (mzBlk zB_243 3) [(0, .ref 0), (1, .int a1), (2, .int a2), (3, .int v1510), (4, .int v1511)] [] H1504 0 0 (gRi (fun v H' => gI SM H' ∧ JN H' ∧ fZ H' 0 2 = fZ H 0 2)) := by
        intro N
        induction N with
        | zero => intro v1510 v1511 bv1511 hmL1512; exact absurd hmL1512 (Nat.not_lt_zero _)
        | succ N ihL1512 =>
          intro v1510 v1511 bv1511 hmL1512
          refine g_iload rfl ?_
          refine g_bipush (by decide) (fun v1513 kv1513 => ?_)
          refine g_if2_ge (fun c1514 => ?_) (fun c1514 => ?_)
          · refine g_iload_n rfl ?_
            exact g_iret ⟨_, rfl, hIH1504, (JM_n hJH1504), (e1507.symm.trans ek0_2)⟩
          · refine g_aload_n rfl ?_
            refine g_gfr hIH1504 sm_0 rfl ?_
            refine g_iload rfl ?_
            refine g_iaload hIH1504 sm_9 rfl (by omega) (fun v1515 ev1515 lv1515 uv1515 => ?_)
            have qv1515 := JM_in hJH1504 (by omega) ev1515
            refine g_bipush (by decide) (fun v1516 kv1516 => ?_)
            refine g_if2_eq (fun c1517 => ?_) (fun c1517 => ?_)
            · refine g_iconst (by decide) (fun v1518 kv1518 => ?_)
              refine g_goto ?_
              refine g_istore (l' := [(0, .ref 0), (1, .int a1), (2, .int a2), (3, .int v1510), (4, .int v1511), (5, .int v1518)]) rfl rfl ?_
              refine g_iload_n rfl ?_
              refine g_aload_n rfl ?_
              refine g_iload rfl ?_
              refine g_invvi hIH1504 sm_0 rfl rfl rfl rfl (s_201 v1511 (by omega) H1504 hIH1504 hJH1504) (fun v1521 H1519 r1520 => ?_)
              obtain ⟨rfl, bv1521⟩ := r1520
              refine g_iload_n rfl ?_
              refine g_if2_ne (fun c1522 => ?_) (fun c1522 => ?_)
              · refine g_iconst (by decide) (fun v1523 kv1523 => ?_)
                refine g_nop ?_
                refine g_iadd (by have := gz_any v1510; omega) (fun v1524 ev1524 => ?_)
                refine g_istore_n (l' := [(0, .ref 0), (1, .int a1), (2, .int a2), (3, .int v1524), (4, .int v1511), (5, .int v1518)]) rfl rfl ?_
                refine g_iinc (l' := (fun v1525 => [(0, .ref 0), (1, .int a1), (2, .int a2), (3, .int v1524), (4, .int v1525), (5, .int v1518)])) rfl rfl (by decide) (by omega) (fun _ => rfl) (fun v1525 ev1525 => ?_)
                refine g_goto ?_
                refine gG_pick [0, 1, 2, 3, 4] (l' := [(0, .ref 0), (1, .int a1), (2, .int a2), (3, .int v1524), (4, .int v1525)]) rfl ?_
                exact ihL1512 v1524 v1525 (by omega) (by omega)
              · refine g_iload rfl ?_
                refine g_if_eq (fun c1526 => ?_) (fun c1526 => ?_)
                · exfalso; omega
                · refine g_iconst (by decide) (fun v1527 kv1527 => ?_)
                  refine g_goto ?_
                  refine g_iadd' (fun v1528 _ => ?_)
                  refine g_istore_n (l' := [(0, .ref 0), (1, .int a1), (2, .int a2), (3, .int v1528), (4, .int v1511), (5, .int v1518)]) rfl rfl ?_
                  refine g_iinc (l' := (fun v1529 => [(0, .ref 0), (1, .int a1), (2, .int a2), (3, .int v1528), (4, .int v1529), (5, .int v1518)])) rfl rfl (by decide) (by omega) (fun _ => rfl) (fun v1529 ev1529 => ?_)
                  refine g_goto ?_
                  refine gG_pick [0, 1, 2, 3, 4] (l' := [(0, .ref 0), (1, .int a1), (2, .int a2), (3, .int v1528), (4, .int v1529)]) rfl ?_
                  exact ihL1512 v1528 v1529 (by omega) (by omega)
            · refine g_aload_n rfl ?_
              refine g_gfr hIH1504 sm_0 rfl ?_
              refine g_aload_n rfl ?_
              refine g_gfr hIH1504 sm_0 rfl ?_
              refine g_iload rfl ?_
              refine g_ialoadk hIH1504 sm_9 rfl (by omega) ev1515 ?_
              refine g_baload hIH1504 sm_13 rfl (by omega) (fun v1530 ev1530 lv1530 uv1530 => ?_)
              refine g_if_eq (fun c1531 => ?_) (fun c1531 => ?_)
              · refine g_iconst (by decide) (fun v1532 kv1532 => ?_)
                refine g_nop ?_
                refine g_istore (l' := [(0, .ref 0), (1, .int a1), (2, .int a2), (3, .int v1510), (4, .int v1511), (5, .int v1532)]) rfl rfl ?_
                refine g_iload_n rfl ?_
                refine g_aload_n rfl ?_
                refine g_iload rfl ?_
                refine g_invvi hIH1504 sm_0 rfl rfl rfl rfl (s_201 v1511 (by omega) H1504 hIH1504 hJH1504) (fun v1535 H1533 r1534 => ?_)
                obtain ⟨rfl, bv1535⟩ := r1534
                refine g_iload_n rfl ?_
                refine g_if2_ne (fun c1536 => ?_) (fun c1536 => ?_)
                · refine g_iconst (by decide) (fun v1537 kv1537 => ?_)
                  refine g_nop ?_
                  refine g_iadd (by have := gz_any v1510; omega) (fun v1538 ev1538 => ?_)
                  refine g_istore_n (l' := [(0, .ref 0), (1, .int a1), (2, .int a2), (3, .int v1538), (4, .int v1511), (5, .int v1532)]) rfl rfl ?_
                  refine g_iinc (l' := (fun v1539 => [(0, .ref 0), (1, .int a1), (2, .int a2), (3, .int v1538), (4, .int v1539), (5, .int v1532)])) rfl rfl (by decide) (by omega) (fun _ => rfl) (fun v1539 ev1539 => ?_)
                  refine g_goto ?_
                  refine gG_pick [0, 1, 2, 3, 4] (l' := [(0, .ref 0), (1, .int a1), (2, .int a2), (3, .int v1538), (4, .int v1539)]) rfl ?_
                  exact ihL1512 v1538 v1539 (by omega) (by omega)
                · refine g_iload rfl ?_
                  refine g_if_eq (fun c1540 => ?_) (fun c1540 => ?_)
                  · refine g_iconst (by decide) (fun v1541 kv1541 => ?_)
                    refine g_nop ?_
                    refine g_iadd (by have := gz_any v1510; omega) (fun v1542 ev1542 => ?_)
                    refine g_istore_n (l' := [(0, .ref 0), (1, .int a1), (2, .int a2), (3, .int v1542), (4, .int v1511), (5, .int v1532)]) rfl rfl ?_
                    refine g_iinc (l' := (fun v1543 => [(0, .ref 0), (1, .int a1), (2, .int a2), (3, .int v1542), (4, .int v1543), (5, .int v1532)])) rfl rfl (by decide) (by omega) (fun _ => rfl) (fun v1543 ev1543 => ?_)
                    refine g_goto ?_
                    refine gG_pick [0, 1, 2, 3, 4] (l' := [(0, .ref 0), (1, .int a1), (2, .int a2), (3, .int v1542), (4, .int v1543)]) rfl ?_
                    exact ihL1512 v1542 v1543 (by omega) (by omega)
                  · exfalso; omega
              · refine g_nop ?_
                refine g_iconst (by decide) (fun v1544 kv1544 => ?_)
                refine g_goto ?_
                refine g_istore (l' := [(0, .ref 0), (1, .int a1), (2, .int a2), (3, .int v1510), (4, .int v1511), (5, .int v1544)]) rfl rfl ?_
                refine g_iload_n rfl ?_
                refine g_aload_n rfl ?_
                refine g_iload rfl ?_
                refine g_invvi hIH1504 sm_0 rfl rfl rfl rfl (s_201 v1511 (by omega) H1504 hIH1504 hJH1504) (fun v1547 H1545 r1546 => ?_)
                obtain ⟨rfl, bv1547⟩ := r1546
                refine g_iload_n rfl ?_
                refine g_if2_ne (fun c1548 => ?_) (fun c1548 => ?_)
                · refine g_iconst (by decide) (fun v1549 kv1549 => ?_)
                  refine g_nop ?_
                  refine g_iadd (by have := gz_any v1510; omega) (fun v1550 ev1550 => ?_)
                  refine g_istore_n (l' := [(0, .ref 0), (1, .int a1), (2, .int a2), (3, .int v1550), (4, .int v1511), (5, .int v1544)]) rfl rfl ?_
                  refine g_iinc (l' := (fun v1551 => [(0, .ref 0), (1, .int a1), (2, .int a2), (3, .int v1550), (4, .int v1551), (5, .int v1544)])) rfl rfl (by decide) (by omega) (fun _ => rfl) (fun v1551 ev1551 => ?_)
                  refine g_goto ?_
                  refine gG_pick [0, 1, 2, 3, 4] (l' := [(0, .ref 0), (1, .int a1), (2, .int a2), (3, .int v1550), (4, .int v1551)]) rfl ?_
                  exact ihL1512 v1550 v1551 (by omega) (by omega)
                · refine g_iload rfl ?_
                  refine g_if_eq (fun c1552 => ?_) (fun c1552 => ?_)
                  · exfalso; omega
                  · refine g_iconst (by decide) (fun v1553 kv1553 => ?_)
                    refine g_goto ?_
                    refine g_iadd' (fun v1554 _ => ?_)
                    refine g_istore_n (l' := [(0, .ref 0), (1, .int a1), (2, .int a2), (3, .int v1554), (4, .int v1511), (5, .int v1544)]) rfl rfl ?_
                    refine g_iinc (l' := (fun v1555 => [(0, .ref 0), (1, .int a1), (2, .int a2), (3, .int v1554), (4, .int v1555), (5, .int v1544)])) rfl rfl (by decide) (by omega) (fun _ => rfl) (fun v1555 ev1555 => ?_)
                    refine g_goto ?_
                    refine gG_pick [0, 1, 2, 3, 4] (l' := [(0, .ref 0), (1, .int a1), (2, .int a2), (3, .int v1554), (4, .int v1555)]) rfl ?_
                    exact ihL1512 v1554 v1555 (by omega) (by omega)
      exact L1512 _ v1508 v1509 (by omega) (Nat.lt_succ_self _)
    · refine g_nop ?_
      refine g_iconst (by decide) (fun v1556 kv1556 => ?_)
      exact g_iret ⟨_, rfl, hIH1492, hJH1492, (e1493.symm.trans ek0_2)⟩
set_option maxRecDepth 4000 in
set_option maxHeartbeats 4000000 in
/-- M.clash -/
theorem s_244 (a1 : Int32) (a2 : Int32) (a3 : Int32) (H : mzH) (hI : gI SM H) (hJ : JN H) : gCall 244 [.ref 0, .int a1, .int a2, .int a3] H (gRi (fun v H' => gI SM H' ∧ JN H' ∧ fZ H' 0 2 = fZ H 0 2)) := by
  obtain ⟨k0_2, ek0_2⟩ : ∃ z, z = fZ H 0 2 := ⟨_, rfl⟩
  have ik0_2 : k0_2.toInt = (fZ H 0 2).toInt := by rw [← ek0_2]
  have bk0_2 : 0 ≤ k0_2.toInt ∧ k0_2.toInt ≤ 900 := by rw [ek0_2]; exact fZ_of hI sm_0 rfl
  refine gG_call [(0, .ref 0), (1, .int a1), (2, .int a2), (3, .int a3)] ⟨rfl, rfl, rfl, rfl, trivial⟩ ?_
  show gG 7 zB_244 (mzBlk zB_244 0) [(0, .ref 0), (1, .int a1), (2, .int a2), (3, .int a3)] [] H 0 0 _
  refine g_aload_n rfl ?_
  refine g_iconst (by decide) (fun v961 kv961 => ?_)
  refine g_pfi hI sm_0 rfl (gz_any _) (fun H962 eH962 hIH962 => ?_)
  have hJH962 : JN H962 := JN_sF eH962 hJ
  have e963 : k0_2 = fZ H962 0 2 := by rw [eH962, fZ_sF_ne (by decide)]; exact ek0_2
  refine g_iload_n rfl ?_
  refine g_invti rfl rfl rfl (s_205 a1 H962 hIH962 hJH962) (fun v966 H964 r965 => ?_)
  obtain ⟨rfl, bv966, p967⟩ := r965
  refine g_if_eq (fun c968 => ?_) (fun c968 => ?_)
  · refine g_iconst (by decide) (fun v969 kv969 => ?_)
    exact g_iret ⟨_, rfl, hIH962, hJH962, (e963.symm.trans ek0_2)⟩
  · refine g_iload_n rfl ?_
    refine g_if_lt (fun c970 => ?_) (fun c970 => ?_)
    · refine g_iconst (by decide) (fun v971 kv971 => ?_)
      exact g_iret ⟨_, rfl, hIH962, hJH962, (e963.symm.trans ek0_2)⟩
    · refine g_iload_n rfl ?_
      refine g_if_lt (fun c972 => ?_) (fun c972 => ?_)
      · refine g_iconst (by decide) (fun v973 kv973 => ?_)
        exact g_iret ⟨_, rfl, hIH962, hJH962, (e963.symm.trans ek0_2)⟩
      · refine g_iload_n rfl ?_
        refine g_iconst (by decide) (fun v974 kv974 => ?_)
        refine g_if2_le (fun c975 => ?_) (fun c975 => ?_)
        · refine g_aload_n rfl ?_
          refine g_invvv hIH962 sm_0 rfl rfl rfl rfl (s_199 H962 hIH962 hJH962) (fun H976 r977 => ?_)
          obtain ⟨hIH976, hJH976, w978, m979, p980⟩ := r977
          have e981 : k0_2 = fZ H976 0 2 := e963.trans w978.symm
          refine g_iload_n rfl ?_
          refine g_istore (l' := [(0, .ref 0), (1, .int a1), (2, .int a2), (3, .int a3), (4, .int a2)]) rfl rfl ?_
          refine g_iconst (by decide) (fun v982 kv982 => ?_)
          refine g_istore (l' := [(0, .ref 0), (1, .int a1), (2, .int a2), (3, .int a3), (4, .int a2), (5, .int v982)]) rfl rfl ?_
          refine g_nop ?_
          have L985 : ∀ (N : Nat) (v983 : Int32) (v984 : Int32), (0 ≤ v983.toInt ∧ v983.toInt ≤ 2147483647) → (0 ≤ v984.toInt ∧ v984.toInt ≤ 60) → (60 - v984.toInt).toNat < N → gG 7 zB_244 (mzBlk zB_244 3) [(0, .ref 0), (1, .int a1), (2, .int a2), (3, .int a3), (4, .int v983), (5, .int v984)] [] H976 0 0 (gRi (fun v H' => gI SM H' ∧ JN H' ∧ fZ H' 0 2 = fZ H 0 2)) := by
            intro N
            induction N with
            | zero => intro v983 v984 bv983 bv984 hmL985; exact absurd hmL985 (Nat.not_lt_zero _)
            | succ N ihL985 =>
              intro v983 v984 bv983 bv984 hmL985
              refine g_iload rfl ?_
              refine g_aload_n rfl ?_
              refine g_gfi hIH976 sm_0 rfl (fun v986 ev986 lv986 uv986 => ?_)
              refine g_if2_ge (fun c987 => ?_) (fun c987 => ?_)
              · refine g_bipush (by decide) (fun v988 kv988 => ?_)
                exact g_iret ⟨_, rfl, hIH976, (JM_n hJH976), (e981.symm.trans ek0_2)⟩
              · refine g_aload_n rfl ?_
                refine g_gfr hIH976 sm_0 rfl ?_
                refine g_iload rfl ?_
                refine g_iaload hIH976 sm_19 rfl (by omega) (fun v989 ev989 lv989 uv989 => ?_)
                refine g_istore (l' := [(0, .ref 0), (1, .int a1), (2, .int a2), (3, .int a3), (4, .int v983), (5, .int v984), (6, .int v989)]) rfl rfl ?_
                refine g_aload_n rfl ?_
                refine g_iload rfl ?_
                refine g_iconst (by decide) (fun v990 kv990 => ?_)
                refine g_invvi hIH976 sm_0 rfl rfl rfl rfl (s_181 v989 (by omega) v990 (by omega) H976 hIH976 (JM_n hJH976)) (fun v993 H991 r992 => ?_)
                obtain ⟨rfl, p994⟩ := r992
                have tv993 : v993 = aZ H976 2 (69 + 5 * v989.toInt + 1).toNat := by rw [p994, kv990]
                have qv993 := JN_w1 (JM_n hJH976) (by omega) tv993
                refine g_bipush (by decide) (fun v995 kv995 => ?_)
                refine g_if2_ne (fun c996 => ?_) (fun c996 => ?_)
                · refine g_iinc (l' := (fun v997 => [(0, .ref 0), (1, .int a1), (2, .int a2), (3, .int a3), (4, .int v983), (5, .int v997), (6, .int v989)])) rfl rfl (by decide) (by omega) (fun _ => rfl) (fun v997 ev997 => ?_)
                  refine g_goto ?_
                  refine gG_pick [0, 1, 2, 3, 4, 5] (l' := [(0, .ref 0), (1, .int a1), (2, .int a2), (3, .int a3), (4, .int v983), (5, .int v997)]) rfl ?_
                  exact ihL985 v983 v997 (by have := gz_any v983; omega) (by omega) (by omega)
                · refine g_aload_n rfl ?_
                  refine g_iload rfl ?_
                  refine g_iconst (by decide) (fun v998 kv998 => ?_)
                  refine g_invvi hIH976 sm_0 rfl rfl rfl rfl (s_181 v989 (by omega) v998 (by omega) H976 hIH976 (JM_n hJH976)) (fun v1001 H999 r1000 => ?_)
                  obtain ⟨rfl, p1002⟩ := r1000
                  have tv1001 : v1001 = aZ H976 2 (69 + 5 * v989.toInt + 2).toNat := by rw [p1002, kv998]
                  have qv1001 := JN_w2 (JM_n hJH976) (by omega) tv1001
                  refine g_iload_n rfl ?_
                  refine g_if2_ne (fun c1003 => ?_) (fun c1003 => ?_)
                  · refine g_iinc (l' := (fun v1004 => [(0, .ref 0), (1, .int a1), (2, .int a2), (3, .int a3), (4, .int v983), (5, .int v1004), (6, .int v989)])) rfl rfl (by decide) (by omega) (fun _ => rfl) (fun v1004 ev1004 => ?_)
                    refine g_goto ?_
                    refine gG_pick [0, 1, 2, 3, 4, 5] (l' := [(0, .ref 0), (1, .int a1), (2, .int a2), (3, .int a3), (4, .int v983), (5, .int v1004)]) rfl ?_
                    exact ihL985 v983 v1004 (by have := gz_any v983; omega) (by omega) (by omega)
                  · refine g_aload_n rfl ?_
                    refine g_gfr hIH976 sm_0 rfl ?_
                    refine g_iload rfl ?_
                    refine g_iaload hIH976 sm_20 rfl (by omega) (fun v1005 ev1005 lv1005 uv1005 => ?_)
                    refine g_bipush (by decide) (fun v1006 kv1006 => ?_)
                    refine g_if2_eq (fun c1007 => ?_) (fun c1007 => ?_)
                    · refine g_iload rfl ?_
                      refine g_if_ne (fun c1008 => ?_) (fun c1008 => ?_)
                      · refine g_iinc (l' := (fun v1009 => [(0, .ref 0), (1, .int a1), (2, .int a2), (3, .int a3), (4, .int v1009), (5, .int v984), (6, .int v989)])) rfl rfl (by decide) (by have := gz_any v983; omega) (fun _ => rfl) (fun v1009 ev1009 => ?_)
                        refine g_nop ?_
                        refine g_iinc (l' := (fun v1010 => [(0, .ref 0), (1, .int a1), (2, .int a2), (3, .int a3), (4, .int v1009), (5, .int v1010), (6, .int v989)])) rfl rfl (by decide) (by omega) (fun _ => rfl) (fun v1010 ev1010 => ?_)
                        refine g_goto ?_
                        refine gG_pick [0, 1, 2, 3, 4, 5] (l' := [(0, .ref 0), (1, .int a1), (2, .int a2), (3, .int a3), (4, .int v1009), (5, .int v1010)]) rfl ?_
                        exact ihL985 v1009 v1010 (by have := gz_any v1009; omega) (by omega) (by omega)
                      · refine g_iload_n rfl ?_
                        refine g_if_ne (fun c1011 => ?_) (fun c1011 => ?_)
                        · refine g_iload_n rfl ?_
                          refine g_iconst (by decide) (fun v1012 kv1012 => ?_)
                          refine g_if2_ne (fun c1013 => ?_) (fun c1013 => ?_)
                          · refine g_iload rfl ?_
                            refine g_nop ?_
                            exact g_iret ⟨_, rfl, hIH976, (JM_n hJH976), (e981.symm.trans ek0_2)⟩
                          · refine g_aload_n rfl ?_
                            refine g_iload rfl ?_
                            refine g_iconst (by decide) (fun v1014 kv1014 => ?_)
                            refine g_invvi hIH976 sm_0 rfl rfl rfl rfl (s_181 v989 (by omega) v1014 (by omega) H976 hIH976 (JM_n hJH976)) (fun v1017 H1015 r1016 => ?_)
                            obtain ⟨rfl, p1018⟩ := r1016
                            have tv1017 : v1017 = aZ H976 2 (69 + 5 * v989.toInt + 0).toNat := by rw [p1018, kv1014]
                            refine g_goto ?_
                            exact g_iret ⟨_, rfl, hIH976, (JM_n hJH976), (e981.symm.trans ek0_2)⟩
                        · refine g_aload_n rfl ?_
                          refine g_iload rfl ?_
                          refine g_iconst (by decide) (fun v1019 kv1019 => ?_)
                          refine g_invvi hIH976 sm_0 rfl rfl rfl rfl (s_181 v989 (by omega) v1019 (by omega) H976 hIH976 (JM_n hJH976)) (fun v1022 H1020 r1021 => ?_)
                          obtain ⟨rfl, p1023⟩ := r1021
                          have tv1022 : v1022 = aZ H976 2 (69 + 5 * v989.toInt + 3).toNat := by rw [p1023, kv1019]
                          have qv1022 := JN_w3 (JM_n hJH976) (by omega) tv993 tv1022
                          refine g_goto ?_
                          exact g_iret ⟨_, rfl, hIH976, (JM_n hJH976), (e981.symm.trans ek0_2)⟩
                    · refine g_aload_n rfl ?_
                      refine g_gfr hIH976 sm_0 rfl ?_
                      refine g_iload rfl ?_
                      refine g_ialoadk hIH976 sm_20 rfl (by omega) ev1005 ?_
                      refine g_bipush (by decide) (fun v1024 kv1024 => ?_)
                      refine g_if2_eq (fun c1025 => ?_) (fun c1025 => ?_)
                      · refine g_iload rfl ?_
                        refine g_if_ne (fun c1026 => ?_) (fun c1026 => ?_)
                        · refine g_iinc (l' := (fun v1027 => [(0, .ref 0), (1, .int a1), (2, .int a2), (3, .int a3), (4, .int v1027), (5, .int v984), (6, .int v989)])) rfl rfl (by decide) (by have := gz_any v983; omega) (fun _ => rfl) (fun v1027 ev1027 => ?_)
                          refine g_nop ?_
                          refine g_iinc (l' := (fun v1028 => [(0, .ref 0), (1, .int a1), (2, .int a2), (3, .int a3), (4, .int v1027), (5, .int v1028), (6, .int v989)])) rfl rfl (by decide) (by omega) (fun _ => rfl) (fun v1028 ev1028 => ?_)
                          refine g_goto ?_
                          refine gG_pick [0, 1, 2, 3, 4, 5] (l' := [(0, .ref 0), (1, .int a1), (2, .int a2), (3, .int a3), (4, .int v1027), (5, .int v1028)]) rfl ?_
                          exact ihL985 v1027 v1028 (by have := gz_any v1027; omega) (by omega) (by omega)
                        · refine g_iload_n rfl ?_
                          refine g_if_ne (fun c1029 => ?_) (fun c1029 => ?_)
                          · refine g_iload_n rfl ?_
                            refine g_iconst (by decide) (fun v1030 kv1030 => ?_)
                            refine g_if2_ne (fun c1031 => ?_) (fun c1031 => ?_)
                            · refine g_iload rfl ?_
                              refine g_nop ?_
                              exact g_iret ⟨_, rfl, hIH976, (JM_n hJH976), (e981.symm.trans ek0_2)⟩
                            · refine g_aload_n rfl ?_
                              refine g_iload rfl ?_
                              refine g_iconst (by decide) (fun v1032 kv1032 => ?_)
                              refine g_invvi hIH976 sm_0 rfl rfl rfl rfl (s_181 v989 (by omega) v1032 (by omega) H976 hIH976 (JM_n hJH976)) (fun v1035 H1033 r1034 => ?_)
                              obtain ⟨rfl, p1036⟩ := r1034
                              have tv1035 : v1035 = aZ H976 2 (69 + 5 * v989.toInt + 0).toNat := by rw [p1036, kv1032]
                              refine g_goto ?_
                              exact g_iret ⟨_, rfl, hIH976, (JM_n hJH976), (e981.symm.trans ek0_2)⟩
                          · refine g_aload_n rfl ?_
                            refine g_iload rfl ?_
                            refine g_iconst (by decide) (fun v1037 kv1037 => ?_)
                            refine g_invvi hIH976 sm_0 rfl rfl rfl rfl (s_181 v989 (by omega) v1037 (by omega) H976 hIH976 (JM_n hJH976)) (fun v1040 H1038 r1039 => ?_)
                            obtain ⟨rfl, p1041⟩ := r1039
                            have tv1040 : v1040 = aZ H976 2 (69 + 5 * v989.toInt + 3).toNat := by rw [p1041, kv1037]
                            have qv1040 := JN_w3 (JM_n hJH976) (by omega) tv993 tv1040
                            refine g_goto ?_
                            exact g_iret ⟨_, rfl, hIH976, (JM_n hJH976), (e981.symm.trans ek0_2)⟩
                      · refine g_goto ?_
                        refine g_iinc (l' := (fun v1042 => [(0, .ref 0), (1, .int a1), (2, .int a2), (3, .int a3), (4, .int v983), (5, .int v1042), (6, .int v989)])) rfl rfl (by decide) (by omega) (fun _ => rfl) (fun v1042 ev1042 => ?_)
                        refine g_goto ?_
                        refine gG_pick [0, 1, 2, 3, 4, 5] (l' := [(0, .ref 0), (1, .int a1), (2, .int a2), (3, .int a3), (4, .int v983), (5, .int v1042)]) rfl ?_
                        exact ihL985 v983 v1042 (by have := gz_any v983; omega) (by omega) (by omega)
          exact L985 _ a2 v982 (by have := gz_any a2; omega) (by omega) (Nat.lt_succ_self _)
        · refine g_nop ?_
          refine g_iconst (by decide) (fun v1043 kv1043 => ?_)
          exact g_iret ⟨_, rfl, hIH962, hJH962, (e963.symm.trans ek0_2)⟩
set_option maxRecDepth 4000 in
set_option maxHeartbeats 4000000 in
/-- M.soonest -/
theorem s_245 (a1 : Int32) (a2 : Int32) (a3 : Int32) (H : mzH) (hI : gI SM H) (hJ : JN H) : gCall 245 [.ref 0, .int a1, .int a2, .int a3] H (gRi (fun v H' => gI SM H' ∧ JN H' ∧ fZ H' 0 2 = fZ H 0 2)) := by
  obtain ⟨k0_2, ek0_2⟩ : ∃ z, z = fZ H 0 2 := ⟨_, rfl⟩
  have ik0_2 : k0_2.toInt = (fZ H 0 2).toInt := by rw [← ek0_2]
  have bk0_2 : 0 ≤ k0_2.toInt ∧ k0_2.toInt ≤ 900 := by rw [ek0_2]; exact fZ_of hI sm_0 rfl
  refine gG_call [(0, .ref 0), (1, .int a1), (2, .int a2), (3, .int a3)] ⟨rfl, rfl, rfl, rfl, trivial⟩ ?_
  show gG 7 zB_245 (mzBlk zB_245 0) [(0, .ref 0), (1, .int a1), (2, .int a2), (3, .int a3)] [] H 0 0 _
  refine g_aload_n rfl ?_
  refine g_iconst (by decide) (fun v177 kv177 => ?_)
  refine g_pfi hI sm_0 rfl (gz_any _) (fun H178 eH178 hIH178 => ?_)
  have hJH178 : JN H178 := JN_sF eH178 hJ
  have e179 : k0_2 = fZ H178 0 2 := by rw [eH178, fZ_sF_ne (by decide)]; exact ek0_2
  refine g_iload_n rfl ?_
  refine g_invti rfl rfl rfl (s_205 a1 H178 hIH178 hJH178) (fun v182 H180 r181 => ?_)
  obtain ⟨rfl, bv182, p183⟩ := r181
  refine g_if_eq (fun c184 => ?_) (fun c184 => ?_)
  · refine g_iconst (by decide) (fun v185 kv185 => ?_)
    exact g_iret ⟨_, rfl, hIH178, hJH178, (e179.symm.trans ek0_2)⟩
  · refine g_iload_n rfl ?_
    refine g_invti rfl rfl rfl (s_206 a2 H178 hIH178 hJH178) (fun v188 H186 r187 => ?_)
    obtain ⟨rfl, bv188⟩ := r187
    refine g_if_eq (fun c189 => ?_) (fun c189 => ?_)
    · refine g_iconst (by decide) (fun v190 kv190 => ?_)
      exact g_iret ⟨_, rfl, hIH178, hJH178, (e179.symm.trans ek0_2)⟩
    · refine g_aload_n rfl ?_
      refine g_iload_n rfl ?_
      refine g_invvi hIH178 sm_0 rfl rfl rfl rfl (s_210 a3 H178 hIH178 hJH178) (fun v193 H191 r192 => ?_)
      obtain ⟨rfl, bv193, p194⟩ := r192
      refine g_if_ne (fun c195 => ?_) (fun c195 => ?_)
      · refine g_aload_n rfl ?_
        refine g_iload_n rfl ?_
        refine g_invvv hIH178 sm_0 rfl rfl rfl rfl (s_200 a2 H178 hIH178 hJH178) (fun H196 r197 => ?_)
        obtain ⟨hIH196, hJH196, w198⟩ := r197
        have e199 : k0_2 = fZ H196 0 2 := e179.trans w198.symm
        refine g_aload_n rfl ?_
        refine g_iload_n rfl ?_
        refine g_invvi hIH196 sm_0 rfl rfl rfl rfl (s_201 a1 (by omega) H196 hIH196 hJH196) (fun v202 H200 r201 => ?_)
        obtain ⟨rfl, bv202⟩ := r201
        refine g_istore (l' := [(0, .ref 0), (1, .int a1), (2, .int a2), (3, .int a3), (4, .int v202)]) rfl rfl ?_
        refine g_iload rfl ?_
        refine g_if_lt (fun c203 => ?_) (fun c203 => ?_)
        · refine g_iload rfl ?_
          refine g_if_ge (fun c204 => ?_) (fun c204 => ?_)
          · exfalso; omega
          · refine g_iload rfl ?_
            refine g_goto ?_
            exact g_iret ⟨_, rfl, hIH196, (JM_n hJH196), (e199.symm.trans ek0_2)⟩
        · refine g_iload rfl ?_
          refine g_iload_n rfl ?_
          refine g_if2_ne (fun c205 => ?_) (fun c205 => ?_)
          · refine g_aload_n rfl ?_
            refine g_gfr hIH196 sm_0 rfl ?_
            refine g_bipush (by decide) (fun v206 kv206 => ?_)
            refine g_iload rfl ?_
            refine g_imulk' (n := 8) kv206 (by omega) (fun v207 ev207 => ?_)
            refine g_iload_n rfl ?_
            refine g_iadd (by omega) (fun v208 ev208 => ?_)
            refine g_iaload hIH196 sm_6 rfl (by omega) (fun v209 ev209 lv209 uv209 => ?_)
            refine g_istore (l' := [(0, .ref 0), (1, .int a1), (2, .int a2), (3, .int a3), (4, .int v202), (5, .int v209)]) rfl rfl ?_
            refine g_iload rfl ?_
            refine g_ldc (by decide) (fun v210 kv210 => ?_)
            refine g_if2_lt (fun c211 => ?_) (fun c211 => ?_)
            · refine g_aload_n rfl ?_
              refine g_gfr hIH196 sm_0 rfl ?_
              refine g_aload_n rfl ?_
              refine g_iload_n rfl ?_
              refine g_invvi hIH196 sm_0 rfl rfl rfl rfl (s_185 a1 (by omega) H196 hIH196 hJH196) (fun v214 H212 r213 => ?_)
              obtain ⟨rfl, bv214⟩ := r213
              refine g_iaload hIH196 sm_11 rfl (by omega) (fun v215 ev215 lv215 uv215 => ?_)
              refine g_iload rfl ?_
              refine g_iadd' (fun v216 _ => ?_)
              refine g_istore (l' := [(0, .ref 0), (1, .int a1), (2, .int a2), (3, .int a3), (4, .int v202), (5, .int v209), (6, .int v216)]) rfl rfl ?_
              refine g_iload rfl ?_
              refine g_iload_n rfl ?_
              refine g_if2_le (fun c217 => ?_) (fun c217 => ?_)
              · refine g_iload_n rfl ?_
                refine g_nop ?_
                exact g_iret ⟨_, rfl, hIH196, (JM_n hJH196), (e199.symm.trans ek0_2)⟩
              · refine g_iload rfl ?_
                refine g_goto ?_
                exact g_iret ⟨_, rfl, hIH196, (JM_n hJH196), (e199.symm.trans ek0_2)⟩
            · refine g_bipush (by decide) (fun v218 kv218 => ?_)
              exact g_iret ⟨_, rfl, hIH196, (JM_n hJH196), (e199.symm.trans ek0_2)⟩
          · refine g_nop ?_
            refine g_iload rfl ?_
            refine g_if_ge (fun c219 => ?_) (fun c219 => ?_)
            · refine g_iload_n rfl ?_
              refine g_nop ?_
              exact g_iret ⟨_, rfl, hIH196, (JM_n hJH196), (e199.symm.trans ek0_2)⟩
            · exfalso; omega
      · refine g_nop ?_
        refine g_iconst (by decide) (fun v220 kv220 => ?_)
        exact g_iret ⟨_, rfl, hIH178, hJH178, (e179.symm.trans ek0_2)⟩
set_option maxRecDepth 4000 in
set_option maxHeartbeats 4000000 in
/-- M.lost -/
theorem s_246 (a1 : Int32) (a2 : Int32) (a3 : Int32) (H : mzH) (hI : gI SM H) (hJ : JN H) : gCall 246 [.ref 0, .int a1, .int a2, .int a3] H (gRi (fun v H' => gI SM H' ∧ JN H' ∧ fZ H' 0 2 = fZ H 0 2)) := by
  obtain ⟨k0_2, ek0_2⟩ : ∃ z, z = fZ H 0 2 := ⟨_, rfl⟩
  have ik0_2 : k0_2.toInt = (fZ H 0 2).toInt := by rw [← ek0_2]
  have bk0_2 : 0 ≤ k0_2.toInt ∧ k0_2.toInt ≤ 900 := by rw [ek0_2]; exact fZ_of hI sm_0 rfl
  refine gG_call [(0, .ref 0), (1, .int a1), (2, .int a2), (3, .int a3)] ⟨rfl, rfl, rfl, rfl, trivial⟩ ?_
  show gG 6 zB_246 (mzBlk zB_246 0) [(0, .ref 0), (1, .int a1), (2, .int a2), (3, .int a3)] [] H 0 0 _
  refine g_aload_n rfl ?_
  refine g_iconst (by decide) (fun v349 kv349 => ?_)
  refine g_pfi hI sm_0 rfl (gz_any _) (fun H350 eH350 hIH350 => ?_)
  have hJH350 : JN H350 := JN_sF eH350 hJ
  have e351 : k0_2 = fZ H350 0 2 := by rw [eH350, fZ_sF_ne (by decide)]; exact ek0_2
  refine g_iload_n rfl ?_
  refine g_invti rfl rfl rfl (s_206 a1 H350 hIH350 hJH350) (fun v354 H352 r353 => ?_)
  obtain ⟨rfl, bv354⟩ := r353
  refine g_if_eq (fun c355 => ?_) (fun c355 => ?_)
  · refine g_iconst (by decide) (fun v356 kv356 => ?_)
    exact g_iret ⟨_, rfl, hIH350, hJH350, (e351.symm.trans ek0_2)⟩
  · refine g_iload_n rfl ?_
    refine g_invti rfl rfl rfl (s_206 a2 H350 hIH350 hJH350) (fun v359 H357 r358 => ?_)
    obtain ⟨rfl, bv359⟩ := r358
    refine g_if_eq (fun c360 => ?_) (fun c360 => ?_)
    · refine g_iconst (by decide) (fun v361 kv361 => ?_)
      exact g_iret ⟨_, rfl, hIH350, hJH350, (e351.symm.trans ek0_2)⟩
    · refine g_iload_n rfl ?_
      refine g_if_ge (fun c362 => ?_) (fun c362 => ?_)
      · refine g_aload_n rfl ?_
        refine g_iload_n rfl ?_
        refine g_invvv hIH350 sm_0 rfl rfl rfl rfl (s_200 a1 H350 hIH350 hJH350) (fun H363 r364 => ?_)
        obtain ⟨hIH363, hJH363, w365⟩ := r364
        have e366 : k0_2 = fZ H363 0 2 := e351.trans w365.symm
        refine g_iload_n rfl ?_
        refine g_istore (l' := [(0, .ref 0), (1, .int a1), (2, .int a2), (3, .int a3), (4, .int a3)]) rfl rfl ?_
        refine g_iconst (by decide) (fun v367 kv367 => ?_)
        refine g_istore (l' := [(0, .ref 0), (1, .int a1), (2, .int a2), (3, .int a3), (4, .int a3), (5, .int v367)]) rfl rfl ?_
        refine g_nop ?_
        have L370 : ∀ (N : Nat) (v368 : Int32) (v369 : Int32), (0 ≤ v368.toInt ∧ v368.toInt ≤ 2147483647) → (0 ≤ v369.toInt ∧ v369.toInt ≤ 40) → (40 - v369.toInt).toNat < N → gG 6 zB_246 (mzBlk zB_246 3) [(0, .ref 0), (1, .int a1), (2, .int a2), (3, .int a3), (4, .int v368), (5, .int v369)] [] H363 0 0 (gRi (fun v H' => gI SM H' ∧ JN H' ∧ fZ H' 0 2 = fZ H 0 2)) := by
          intro N
          induction N with
          | zero => intro v368 v369 bv368 bv369 hmL370; exact absurd hmL370 (Nat.not_lt_zero _)
          | succ N ihL370 =>
            intro v368 v369 bv368 bv369 hmL370
            refine g_iload rfl ?_
            refine g_bipush (by decide) (fun v371 kv371 => ?_)
            refine g_if2_ge (fun c372 => ?_) (fun c372 => ?_)
            · refine g_bipush (by decide) (fun v373 kv373 => ?_)
              exact g_iret ⟨_, rfl, hIH363, (JM_n hJH363), (e366.symm.trans ek0_2)⟩
            · refine g_aload_n rfl ?_
              refine g_iload rfl ?_
              refine g_invvi hIH363 sm_0 rfl rfl rfl rfl (s_201 v369 (by omega) H363 hIH363 hJH363) (fun v376 H374 r375 => ?_)
              obtain ⟨rfl, bv376⟩ := r375
              refine g_if_lt (fun c377 => ?_) (fun c377 => ?_)
              · refine g_iinc (l' := (fun v378 => [(0, .ref 0), (1, .int a1), (2, .int a2), (3, .int a3), (4, .int v368), (5, .int v378)])) rfl rfl (by decide) (by omega) (fun _ => rfl) (fun v378 ev378 => ?_)
                refine g_goto ?_
                exact ihL370 v368 v378 (by have := gz_any v368; omega) (by omega) (by omega)
              · refine g_iload_n rfl ?_
                refine g_aload_n rfl ?_
                refine g_gfr hIH363 sm_0 rfl ?_
                refine g_aload_n rfl ?_
                refine g_iload rfl ?_
                refine g_invvi hIH363 sm_0 rfl rfl rfl rfl (s_185 v369 (by omega) H363 hIH363 hJH363) (fun v381 H379 r380 => ?_)
                obtain ⟨rfl, bv381⟩ := r380
                refine g_iaload hIH363 sm_11 rfl (by omega) (fun v382 ev382 lv382 uv382 => ?_)
                refine g_isub' (fun v383 _ => ?_)
                refine g_iload_n rfl ?_
                refine g_if2_ge (fun c384 => ?_) (fun c384 => ?_)
                · refine g_iload rfl ?_
                  refine g_if_ne (fun c385 => ?_) (fun c385 => ?_)
                  · refine g_iinc (l' := (fun v386 => [(0, .ref 0), (1, .int a1), (2, .int a2), (3, .int a3), (4, .int v386), (5, .int v369)])) rfl rfl (by decide) (by have := gz_any v368; omega) (fun _ => rfl) (fun v386 ev386 => ?_)
                    refine g_nop ?_
                    refine g_iinc (l' := (fun v387 => [(0, .ref 0), (1, .int a1), (2, .int a2), (3, .int a3), (4, .int v386), (5, .int v387)])) rfl rfl (by decide) (by omega) (fun _ => rfl) (fun v387 ev387 => ?_)
                    refine g_goto ?_
                    exact ihL370 v386 v387 (by have := gz_any v386; omega) (by omega) (by omega)
                  · refine g_iload rfl ?_
                    exact g_iret ⟨_, rfl, hIH363, (JM_n hJH363), (e366.symm.trans ek0_2)⟩
                · refine g_goto ?_
                  refine g_iinc (l' := (fun v388 => [(0, .ref 0), (1, .int a1), (2, .int a2), (3, .int a3), (4, .int v368), (5, .int v388)])) rfl rfl (by decide) (by omega) (fun _ => rfl) (fun v388 ev388 => ?_)
                  refine g_goto ?_
                  exact ihL370 v368 v388 (by have := gz_any v368; omega) (by omega) (by omega)
        exact L370 _ a3 v367 (by have := gz_any a3; omega) (by omega) (Nat.lt_succ_self _)
      · refine g_nop ?_
        refine g_iconst (by decide) (fun v389 kv389 => ?_)
        exact g_iret ⟨_, rfl, hIH350, hJH350, (e351.symm.trans ek0_2)⟩
set_option maxRecDepth 4000 in
set_option maxHeartbeats 4000000 in
/-- M.ifSwapped -/
theorem s_247 (a1 : Int32) (a2 : Int32) (a3 : Int32) (H : mzH) (hI : gI SM H) (hJ : JN H) : gCall 247 [.ref 0, .int a1, .int a2, .int a3] H (gRi (fun v H' => gI SM H' ∧ JN H' ∧ fZ H' 0 2 = fZ H 0 2)) := by
  obtain ⟨k0_2, ek0_2⟩ : ∃ z, z = fZ H 0 2 := ⟨_, rfl⟩
  have ik0_2 : k0_2.toInt = (fZ H 0 2).toInt := by rw [← ek0_2]
  have bk0_2 : 0 ≤ k0_2.toInt ∧ k0_2.toInt ≤ 900 := by rw [ek0_2]; exact fZ_of hI sm_0 rfl
  refine gG_call [(0, .ref 0), (1, .int a1), (2, .int a2), (3, .int a3)] ⟨rfl, rfl, rfl, rfl, trivial⟩ ?_
  show gG 5 zB_247 (mzBlk zB_247 0) [(0, .ref 0), (1, .int a1), (2, .int a2), (3, .int a3)] [] H 0 0 _
  refine g_aload_n rfl ?_
  refine g_iconst (by decide) (fun v445 kv445 => ?_)
  refine g_pfi hI sm_0 rfl (gz_any _) (fun H446 eH446 hIH446 => ?_)
  have hJH446 : JN H446 := JN_sF eH446 hJ
  have e447 : k0_2 = fZ H446 0 2 := by rw [eH446, fZ_sF_ne (by decide)]; exact ek0_2
  refine g_iload_n rfl ?_
  refine g_if_lt (fun c448 => ?_) (fun c448 => ?_)
  · refine g_iconst (by decide) (fun v449 kv449 => ?_)
    refine g_nop ?_
    refine g_istore (l' := [(0, .ref 0), (1, .int a1), (2, .int a2), (3, .int a3), (4, .int v449)]) rfl rfl ?_
    refine g_iload rfl ?_
    refine g_if_ne (fun c450 => ?_) (fun c450 => ?_)
    · exfalso; omega
    · refine g_sipush (by decide) (fun v451 kv451 => ?_)
      exact g_iret ⟨_, rfl, hIH446, hJH446, (e447.symm.trans ek0_2)⟩
  · refine g_iload_n rfl ?_
    refine g_aload_n rfl ?_
    refine g_invvi hIH446 sm_0 rfl rfl rfl rfl (s_180 H446 hIH446 hJH446) (fun v454 H452 r453 => ?_)
    obtain ⟨rfl, bv454, p455⟩ := r453
    refine g_if2_ge (fun c456 => ?_) (fun c456 => ?_)
    · refine g_iconst (by decide) (fun v457 kv457 => ?_)
      refine g_nop ?_
      refine g_istore (l' := [(0, .ref 0), (1, .int a1), (2, .int a2), (3, .int a3), (4, .int v457)]) rfl rfl ?_
      refine g_iload rfl ?_
      refine g_if_ne (fun c458 => ?_) (fun c458 => ?_)
      · exfalso; omega
      · refine g_sipush (by decide) (fun v459 kv459 => ?_)
        exact g_iret ⟨_, rfl, hIH446, hJH446, (e447.symm.trans ek0_2)⟩
    · refine g_iload_n rfl ?_
      refine g_if_lt (fun c460 => ?_) (fun c460 => ?_)
      · refine g_iconst (by decide) (fun v461 kv461 => ?_)
        refine g_nop ?_
        refine g_istore (l' := [(0, .ref 0), (1, .int a1), (2, .int a2), (3, .int a3), (4, .int v461)]) rfl rfl ?_
        refine g_iload rfl ?_
        refine g_if_ne (fun c462 => ?_) (fun c462 => ?_)
        · exfalso; omega
        · refine g_sipush (by decide) (fun v463 kv463 => ?_)
          exact g_iret ⟨_, rfl, hIH446, hJH446, (e447.symm.trans ek0_2)⟩
      · refine g_iload_n rfl ?_
        refine g_aload_n rfl ?_
        refine g_invvi hIH446 sm_0 rfl rfl rfl rfl (s_180 H446 hIH446 hJH446) (fun v466 H464 r465 => ?_)
        obtain ⟨rfl, bv466, p467⟩ := r465
        refine g_if2_ge (fun c468 => ?_) (fun c468 => ?_)
        · refine g_iconst (by decide) (fun v469 kv469 => ?_)
          refine g_nop ?_
          refine g_istore (l' := [(0, .ref 0), (1, .int a1), (2, .int a2), (3, .int a3), (4, .int v469)]) rfl rfl ?_
          refine g_iload rfl ?_
          refine g_if_ne (fun c470 => ?_) (fun c470 => ?_)
          · exfalso; omega
          · refine g_sipush (by decide) (fun v471 kv471 => ?_)
            exact g_iret ⟨_, rfl, hIH446, hJH446, (e447.symm.trans ek0_2)⟩
        · refine g_iload_n rfl ?_
          refine g_iload_n rfl ?_
          refine g_if2_eq (fun c472 => ?_) (fun c472 => ?_)
          · refine g_iconst (by decide) (fun v473 kv473 => ?_)
            refine g_nop ?_
            refine g_istore (l' := [(0, .ref 0), (1, .int a1), (2, .int a2), (3, .int a3), (4, .int v473)]) rfl rfl ?_
            refine g_iload rfl ?_
            refine g_if_ne (fun c474 => ?_) (fun c474 => ?_)
            · exfalso; omega
            · refine g_sipush (by decide) (fun v475 kv475 => ?_)
              exact g_iret ⟨_, rfl, hIH446, hJH446, (e447.symm.trans ek0_2)⟩
          · refine g_iload_n rfl ?_
            refine g_iconst (by decide) (fun v476 kv476 => ?_)
            refine g_if2_eq (fun c477 => ?_) (fun c477 => ?_)
            · refine g_iconst (by decide) (fun v478 kv478 => ?_)
              refine g_goto ?_
              refine g_istore (l' := [(0, .ref 0), (1, .int a1), (2, .int a2), (3, .int a3), (4, .int v478)]) rfl rfl ?_
              refine g_iload rfl ?_
              refine g_if_ne (fun c479 => ?_) (fun c479 => ?_)
              · refine g_aload_n rfl ?_
                refine g_invvv hIH446 sm_0 rfl rfl rfl rfl (s_182 H446 hIH446 hJH446) (fun H480 r481 => ?_)
                obtain ⟨hIH480, hJH480, m482, m483, p484⟩ := r481
                have e485 : k0_2 = fZ H480 0 2 := e447.trans (m482 0 2).symm
                refine g_aload_n rfl ?_
                refine g_gfr hIH480 sm_0 rfl ?_
                refine g_iload_n rfl ?_
                refine g_aload_n rfl ?_
                refine g_iload_n rfl ?_
                refine g_iconst (by decide) (fun v486 kv486 => ?_)
                refine g_invvi hIH480 sm_0 rfl rfl rfl rfl (s_181 a2 (by omega) v486 (by omega) H480 hIH480 hJH480) (fun v489 H487 r488 => ?_)
                obtain ⟨rfl, p490⟩ := r488
                have tv489 : v489 = aZ H480 2 (69 + 5 * a2.toInt + 0).toNat := by rw [p490, kv486]
                refine g_iastore hIH480 sm_18 (by omega) (gz_any _) (fun H491 eH491 hIH491 => ?_)
                have hJH491 : JN H491 := JN_sA (by decide) eH491 hJH480
                have e492 : k0_2 = fZ H491 0 2 := by rw [eH491, fZ_sA]; exact e485
                refine g_aload_n rfl ?_
                refine g_gfr hIH491 sm_0 rfl ?_
                refine g_iload_n rfl ?_
                refine g_aload_n rfl ?_
                refine g_iload_n rfl ?_
                refine g_iconst (by decide) (fun v493 kv493 => ?_)
                refine g_invvi hIH491 sm_0 rfl rfl rfl rfl (s_181 a1 (by omega) v493 (by omega) H491 hIH491 hJH491) (fun v496 H494 r495 => ?_)
                obtain ⟨rfl, p497⟩ := r495
                have tv496 : v496 = aZ H491 2 (69 + 5 * a1.toInt + 0).toNat := by rw [p497, kv493]
                refine g_iastore hIH491 sm_18 (by omega) (gz_any _) (fun H498 eH498 hIH498 => ?_)
                have hJH498 : JN H498 := JN_sA (by decide) eH498 hJH491
                have e499 : k0_2 = fZ H498 0 2 := by rw [eH498, fZ_sA]; exact e492
                refine g_aload_n rfl ?_
                refine g_sipush (by decide) (fun v500 kv500 => ?_)
                refine g_invvv hIH498 sm_0 rfl rfl rfl rfl (s_198 v500 H498 hIH498 hJH498) (fun H501 r502 => ?_)
                obtain ⟨hIH501, hJH501, w503, m504, m505, p506⟩ := r502
                have e507 : k0_2 = fZ H501 0 2 := e499.trans w503.symm
                refine g_iload_n rfl ?_
                refine g_iconst (by decide) (fun v508 kv508 => ?_)
                refine g_if2_ne (fun c509 => ?_) (fun c509 => ?_)
                · exfalso; omega
                · refine g_aload_n rfl ?_
                  refine g_invvi hIH501 sm_0 rfl rfl rfl rfl (s_224 H501 hIH501 (JM_n hJH501)) (fun v512 H510 r511 => ?_)
                  obtain rfl := r511
                  refine g_goto ?_
                  exact g_iret ⟨_, rfl, hIH501, (JM_n hJH501), (e507.symm.trans ek0_2)⟩
              · exfalso; omega
            · refine g_iload_n rfl ?_
              refine g_invti rfl rfl rfl (s_205 a3 H446 hIH446 hJH446) (fun v515 H513 r514 => ?_)
              obtain ⟨rfl, bv515, p516⟩ := r514
              refine g_if_eq (fun c517 => ?_) (fun c517 => ?_)
              · refine g_iconst (by decide) (fun v518 kv518 => ?_)
                refine g_nop ?_
                refine g_istore (l' := [(0, .ref 0), (1, .int a1), (2, .int a2), (3, .int a3), (4, .int v518)]) rfl rfl ?_
                refine g_iload rfl ?_
                refine g_if_ne (fun c519 => ?_) (fun c519 => ?_)
                · exfalso; omega
                · refine g_sipush (by decide) (fun v520 kv520 => ?_)
                  exact g_iret ⟨_, rfl, hIH446, hJH446, (e447.symm.trans ek0_2)⟩
              · refine g_nop ?_
                refine g_iconst (by decide) (fun v521 kv521 => ?_)
                refine g_goto ?_
                refine g_istore (l' := [(0, .ref 0), (1, .int a1), (2, .int a2), (3, .int a3), (4, .int v521)]) rfl rfl ?_
                refine g_iload rfl ?_
                refine g_if_ne (fun c522 => ?_) (fun c522 => ?_)
                · refine g_aload_n rfl ?_
                  refine g_invvv hIH446 sm_0 rfl rfl rfl rfl (s_182 H446 hIH446 hJH446) (fun H523 r524 => ?_)
                  obtain ⟨hIH523, hJH523, m525, m526, p527⟩ := r524
                  have e528 : k0_2 = fZ H523 0 2 := e447.trans (m525 0 2).symm
                  refine g_aload_n rfl ?_
                  refine g_gfr hIH523 sm_0 rfl ?_
                  refine g_iload_n rfl ?_
                  refine g_aload_n rfl ?_
                  refine g_iload_n rfl ?_
                  refine g_iconst (by decide) (fun v529 kv529 => ?_)
                  refine g_invvi hIH523 sm_0 rfl rfl rfl rfl (s_181 a2 (by omega) v529 (by omega) H523 hIH523 hJH523) (fun v532 H530 r531 => ?_)
                  obtain ⟨rfl, p533⟩ := r531
                  have tv532 : v532 = aZ H523 2 (69 + 5 * a2.toInt + 0).toNat := by rw [p533, kv529]
                  refine g_iastore hIH523 sm_18 (by omega) (gz_any _) (fun H534 eH534 hIH534 => ?_)
                  have hJH534 : JN H534 := JN_sA (by decide) eH534 hJH523
                  have e535 : k0_2 = fZ H534 0 2 := by rw [eH534, fZ_sA]; exact e528
                  refine g_aload_n rfl ?_
                  refine g_gfr hIH534 sm_0 rfl ?_
                  refine g_iload_n rfl ?_
                  refine g_aload_n rfl ?_
                  refine g_iload_n rfl ?_
                  refine g_iconst (by decide) (fun v536 kv536 => ?_)
                  refine g_invvi hIH534 sm_0 rfl rfl rfl rfl (s_181 a1 (by omega) v536 (by omega) H534 hIH534 hJH534) (fun v539 H537 r538 => ?_)
                  obtain ⟨rfl, p540⟩ := r538
                  have tv539 : v539 = aZ H534 2 (69 + 5 * a1.toInt + 0).toNat := by rw [p540, kv536]
                  refine g_iastore hIH534 sm_18 (by omega) (gz_any _) (fun H541 eH541 hIH541 => ?_)
                  have hJH541 : JN H541 := JN_sA (by decide) eH541 hJH534
                  have e542 : k0_2 = fZ H541 0 2 := by rw [eH541, fZ_sA]; exact e535
                  refine g_aload_n rfl ?_
                  refine g_sipush (by decide) (fun v543 kv543 => ?_)
                  refine g_invvv hIH541 sm_0 rfl rfl rfl rfl (s_198 v543 H541 hIH541 hJH541) (fun H544 r545 => ?_)
                  obtain ⟨hIH544, hJH544, w546, m547, m548, p549⟩ := r545
                  have e550 : k0_2 = fZ H544 0 2 := e542.trans w546.symm
                  refine g_iload_n rfl ?_
                  refine g_iconst (by decide) (fun v551 kv551 => ?_)
                  refine g_if2_ne (fun c552 => ?_) (fun c552 => ?_)
                  · refine g_aload_n rfl ?_
                    refine g_iload_n rfl ?_
                    refine g_invvi hIH544 sm_0 rfl rfl rfl rfl (s_201 a3 (by omega) H544 hIH544 hJH544) (fun v555 H553 r554 => ?_)
                    obtain ⟨rfl, bv555⟩ := r554
                    refine g_nop ?_
                    exact g_iret ⟨_, rfl, hIH544, (JM_n hJH544), (e550.symm.trans ek0_2)⟩
                  · exfalso; omega
                · exfalso; omega
set_option maxRecDepth 4000 in
set_option maxHeartbeats 4000000 in
/-- M.manyAt -/
theorem s_248 (a1 : Int32) (H : mzH) (hI : gI SM H) (hJ : JM H) : gCall 248 [.ref 0, .int a1] H (gRi (fun v H' => H = H')) := by
  refine gG_call [(0, .ref 0), (1, .int a1)] ⟨rfl, rfl, trivial⟩ ?_
  show gG 4 zB_248 (mzBlk zB_248 0) [(0, .ref 0), (1, .int a1)] [] H 0 0 _
  refine g_iconst (by decide) (fun v459 kv459 => ?_)
  refine g_istore_n (l' := [(0, .ref 0), (1, .int a1), (2, .int v459)]) rfl rfl ?_
  refine g_iconst (by decide) (fun v460 kv460 => ?_)
  refine g_istore_n (l' := [(0, .ref 0), (1, .int a1), (2, .int v459), (3, .int v460)]) rfl rfl ?_
  refine g_nop ?_
  have L463 : ∀ (N : Nat) (v461 : Int32) (v462 : Int32), (0 ≤ v462.toInt ∧ v462.toInt ≤ 40) → (40 - v462.toInt).toNat < N → gG 4 zB_248 (mzBlk zB_248 1) [(0, .ref 0), (1, .int a1), (2, .int v461), (3, .int v462)] [] H 0 0 (gRi (fun v H' => H = H')) := by
    intro N
    induction N with
    | zero => intro v461 v462 bv462 hmL463; exact absurd hmL463 (Nat.not_lt_zero _)
    | succ N ihL463 =>
      intro v461 v462 bv462 hmL463
      refine g_iload_n rfl ?_
      refine g_bipush (by decide) (fun v464 kv464 => ?_)
      refine g_if2_ge (fun c465 => ?_) (fun c465 => ?_)
      · refine g_iload_n rfl ?_
        exact g_iret ⟨_, rfl, rfl⟩
      · refine g_iload_n rfl ?_
        refine g_aload_n rfl ?_
        refine g_iload_n rfl ?_
        refine g_invvi hI sm_0 rfl rfl rfl rfl (s_201 v462 (by omega) H hI hJ) (fun v468 H466 r467 => ?_)
        obtain ⟨rfl, bv468⟩ := r467
        refine g_iload_n rfl ?_
        refine g_if2_ne (fun c469 => ?_) (fun c469 => ?_)
        · refine g_iconst (by decide) (fun v470 kv470 => ?_)
          refine g_nop ?_
          refine g_iadd (by have := gz_any v461; omega) (fun v471 ev471 => ?_)
          refine g_istore_n (l' := [(0, .ref 0), (1, .int a1), (2, .int v471), (3, .int v462)]) rfl rfl ?_
          refine g_iinc (l' := (fun v472 => [(0, .ref 0), (1, .int a1), (2, .int v471), (3, .int v472)])) rfl rfl (by decide) (by omega) (fun _ => rfl) (fun v472 ev472 => ?_)
          refine g_goto ?_
          exact ihL463 v471 v472 (by omega) (by omega)
        · refine g_iconst (by decide) (fun v473 kv473 => ?_)
          refine g_goto ?_
          refine g_iadd' (fun v474 _ => ?_)
          refine g_istore_n (l' := [(0, .ref 0), (1, .int a1), (2, .int v474), (3, .int v462)]) rfl rfl ?_
          refine g_iinc (l' := (fun v475 => [(0, .ref 0), (1, .int a1), (2, .int v474), (3, .int v475)])) rfl rfl (by decide) (by omega) (fun _ => rfl) (fun v475 ev475 => ?_)
          refine g_goto ?_
          exact ihL463 v474 v475 (by omega) (by omega)
  exact L463 _ v459 v460 (by omega) (Nat.lt_succ_self _)
set_option maxRecDepth 4000 in
set_option maxHeartbeats 4000000 in
/-- M.busy -/
theorem s_249 (a1 : Int32) (a2 : Int32) (H : mzH) (hI : gI SM H) (hJ : JN H) : gCall 249 [.ref 0, .int a1, .int a2] H (gRi (fun v H' => gI SM H' ∧ JN H' ∧ fZ H' 0 2 = fZ H 0 2)) := by
  obtain ⟨k0_2, ek0_2⟩ : ∃ z, z = fZ H 0 2 := ⟨_, rfl⟩
  have ik0_2 : k0_2.toInt = (fZ H 0 2).toInt := by rw [← ek0_2]
  have bk0_2 : 0 ≤ k0_2.toInt ∧ k0_2.toInt ≤ 900 := by rw [ek0_2]; exact fZ_of hI sm_0 rfl
  refine gG_call [(0, .ref 0), (1, .int a1), (2, .int a2)] ⟨rfl, rfl, rfl, trivial⟩ ?_
  show gG 7 zB_249 (mzBlk zB_249 0) [(0, .ref 0), (1, .int a1), (2, .int a2)] [] H 0 0 _
  refine g_aload_n rfl ?_
  refine g_iconst (by decide) (fun v683 kv683 => ?_)
  refine g_pfi hI sm_0 rfl (gz_any _) (fun H684 eH684 hIH684 => ?_)
  have hJH684 : JN H684 := JN_sF eH684 hJ
  have e685 : k0_2 = fZ H684 0 2 := by rw [eH684, fZ_sF_ne (by decide)]; exact ek0_2
  refine g_aload_n rfl ?_
  refine g_iload_n rfl ?_
  refine g_invvi hIH684 sm_0 rfl rfl rfl rfl (s_210 a1 H684 hIH684 hJH684) (fun v688 H686 r687 => ?_)
  obtain ⟨rfl, bv688, p689⟩ := r687
  refine g_if_ne (fun c690 => ?_) (fun c690 => ?_)
  · refine g_iload_n rfl ?_
    refine g_if_lt (fun c691 => ?_) (fun c691 => ?_)
    · refine g_iconst (by decide) (fun v692 kv692 => ?_)
      exact g_iret ⟨_, rfl, hIH684, hJH684, (e685.symm.trans ek0_2)⟩
    · refine g_iload_n rfl ?_
      refine g_iconst (by decide) (fun v693 kv693 => ?_)
      refine g_if2_le (fun c694 => ?_) (fun c694 => ?_)
      · refine g_aload_n rfl ?_
        refine g_invvv hIH684 sm_0 rfl rfl rfl rfl (s_182 H684 hIH684 hJH684) (fun H695 r696 => ?_)
        obtain ⟨hIH695, hJH695, m697, m698, p699⟩ := r696
        have e700 : k0_2 = fZ H695 0 2 := e685.trans (m697 0 2).symm
        refine g_aload_n rfl ?_
        refine g_invvv hIH695 sm_0 rfl rfl rfl rfl (s_184 H695 hIH695 hJH695) (fun H701 r702 => ?_)
        obtain ⟨hIH701, hJH701, w703, m704, m705, p706⟩ := r702
        have e707 : k0_2 = fZ H701 0 2 := e700.trans w703.symm
        refine g_iconst (by decide) (fun v708 kv708 => ?_)
        refine g_istore_n (l' := [(0, .ref 0), (1, .int a1), (2, .int a2), (3, .int v708)]) rfl rfl ?_
        refine g_bipush (by decide) (fun v709 kv709 => ?_)
        refine g_istore (l' := [(0, .ref 0), (1, .int a1), (2, .int a2), (3, .int v708), (4, .int v709)]) rfl rfl ?_
        refine g_iconst (by decide) (fun v710 kv710 => ?_)
        refine g_istore (l' := [(0, .ref 0), (1, .int a1), (2, .int a2), (3, .int v708), (4, .int v709), (5, .int v710)]) rfl rfl ?_
        refine g_nop ?_
        have L716 : ∀ (N : Nat) (v711 : Int32) (v712 : Int32) (v713 : Int32) (H714 : mzH), gI SM H714 → JM H714 → k0_2 = fZ H714 0 2 → (-1 ≤ v711.toInt ∧ v711.toInt ≤ 2147483647) → (0 ≤ v713.toInt ∧ v713.toInt ≤ 60) → (60 - v713.toInt).toNat < N → gG 7 zB_249 (mzBlk zB_249 4) [(0, .ref 0), (1, .int a1), (2, .int a2), (3, .int v711), (4, .int v712), (5, .int v713)] [] H714 0 0 (gRi (fun v H' => gI SM H' ∧ JN H' ∧ fZ H' 0 2 = fZ H 0 2)) := by
          intro N
          induction N with
          | zero => intro v711 v712 v713 H714 hIH714 hJH714 e715 bv711 bv713 hmL716; exact absurd hmL716 (Nat.not_lt_zero _)
          | succ N ihL716 =>
            intro v711 v712 v713 H714 hIH714 hJH714 e715 bv711 bv713 hmL716
            refine g_iload rfl ?_
            refine g_aload_n rfl ?_
            refine g_gfi hIH714 sm_0 rfl (fun v717 ev717 lv717 uv717 => ?_)
            refine g_if2_ge (fun c718 => ?_) (fun c718 => ?_)
            · refine g_iload_n rfl ?_
              refine g_iconst (by decide) (fun v719 kv719 => ?_)
              refine g_if2_ne (fun c720 => ?_) (fun c720 => ?_)
              · refine g_iload_n rfl ?_
                refine g_iconst (by decide) (fun v721 kv721 => ?_)
                refine g_if2_ne (fun c722 => ?_) (fun c722 => ?_)
                · refine g_iload_n rfl ?_
                  refine g_nop ?_
                  exact g_iret ⟨_, rfl, hIH714, (JM_n hJH714), (e715.symm.trans ek0_2)⟩
                · refine g_iconst (by decide) (fun v723 kv723 => ?_)
                  refine g_goto ?_
                  exact g_iret ⟨_, rfl, hIH714, (JM_n hJH714), (e715.symm.trans ek0_2)⟩
              · refine g_iload rfl ?_
                refine g_goto ?_
                exact g_iret ⟨_, rfl, hIH714, (JM_n hJH714), (e715.symm.trans ek0_2)⟩
            · refine g_aload_n rfl ?_
              refine g_aload_n rfl ?_
              refine g_gfr hIH714 sm_0 rfl ?_
              refine g_iload rfl ?_
              refine g_iaload hIH714 sm_19 rfl (by omega) (fun v724 ev724 lv724 uv724 => ?_)
              refine g_invvv hIH714 sm_0 rfl rfl rfl rfl (s_192 v724 (by omega) H714 hIH714 hJH714) (fun H725 r726 => ?_)
              obtain ⟨hIH725, hJH725, m727, m728, m729, m730⟩ := r726
              have e731 : k0_2 = fZ H725 0 2 := e715.trans (m727 0 2).symm
              refine g_aload_n rfl ?_
              refine g_iload_n rfl ?_
              refine g_invvi hIH725 sm_0 rfl rfl rfl rfl (s_248 a1 H725 hIH725 hJH725) (fun v734 H732 r733 => ?_)
              obtain rfl := r733
              refine g_istore (l' := [(0, .ref 0), (1, .int a1), (2, .int a2), (3, .int v711), (4, .int v712), (5, .int v713), (6, .int v734)]) rfl rfl ?_
              refine g_iload rfl ?_
              refine g_iload_n rfl ?_
              refine g_if2_gt (fun c735 => ?_) (fun c735 => ?_)
              · refine g_iload rfl ?_
                refine g_istore_n (l' := [(0, .ref 0), (1, .int a1), (2, .int a2), (3, .int v734), (4, .int v712), (5, .int v713), (6, .int v734)]) rfl rfl ?_
                refine g_aload_n rfl ?_
                refine g_gfr hIH725 sm_0 rfl ?_
                refine g_aload_n rfl ?_
                refine g_gfr hIH725 sm_0 rfl ?_
                refine g_iload rfl ?_
                refine g_iaload hIH725 sm_19 rfl (by omega) (fun v736 ev736 lv736 uv736 => ?_)
                refine g_iaload hIH725 sm_18 rfl (by omega) (fun v737 ev737 lv737 uv737 => ?_)
                refine g_istore (l' := [(0, .ref 0), (1, .int a1), (2, .int a2), (3, .int v734), (4, .int v737), (5, .int v713), (6, .int v734)]) rfl rfl ?_
                refine g_nop ?_
                refine g_iinc (l' := (fun v738 => [(0, .ref 0), (1, .int a1), (2, .int a2), (3, .int v734), (4, .int v737), (5, .int v738), (6, .int v734)])) rfl rfl (by decide) (by omega) (fun _ => rfl) (fun v738 ev738 => ?_)
                refine g_goto ?_
                refine gG_pick [0, 1, 2, 3, 4, 5] (l' := [(0, .ref 0), (1, .int a1), (2, .int a2), (3, .int v734), (4, .int v737), (5, .int v738)]) rfl ?_
                exact ihL716 v734 v737 v738 H725 hIH725 hJH725 e731 (by have := gz_any v734; omega) (by omega) (by omega)
              · refine g_goto ?_
                refine g_iinc (l' := (fun v739 => [(0, .ref 0), (1, .int a1), (2, .int a2), (3, .int v711), (4, .int v712), (5, .int v739), (6, .int v734)])) rfl rfl (by decide) (by omega) (fun _ => rfl) (fun v739 ev739 => ?_)
                refine g_goto ?_
                refine gG_pick [0, 1, 2, 3, 4, 5] (l' := [(0, .ref 0), (1, .int a1), (2, .int a2), (3, .int v711), (4, .int v712), (5, .int v739)]) rfl ?_
                exact ihL716 v711 v712 v739 H725 hIH725 hJH725 e731 (by have := gz_any v711; omega) (by omega) (by omega)
        exact L716 _ v708 v709 v710 H701 hIH701 hJH701 e707 (by have := gz_any v708; omega) (by omega) (Nat.lt_succ_self _)
      · refine g_nop ?_
        refine g_iconst (by decide) (fun v740 kv740 => ?_)
        exact g_iret ⟨_, rfl, hIH684, hJH684, (e685.symm.trans ek0_2)⟩
  · refine g_iload_n rfl ?_
    refine g_bipush (by decide) (fun v741 kv741 => ?_)
    refine g_if2_eq (fun c742 => ?_) (fun c742 => ?_)
    · refine g_iload_n rfl ?_
      refine g_if_lt (fun c743 => ?_) (fun c743 => ?_)
      · refine g_iconst (by decide) (fun v744 kv744 => ?_)
        exact g_iret ⟨_, rfl, hIH684, hJH684, (e685.symm.trans ek0_2)⟩
      · refine g_iload_n rfl ?_
        refine g_iconst (by decide) (fun v745 kv745 => ?_)
        refine g_if2_le (fun c746 => ?_) (fun c746 => ?_)
        · refine g_aload_n rfl ?_
          refine g_invvv hIH684 sm_0 rfl rfl rfl rfl (s_182 H684 hIH684 hJH684) (fun H747 r748 => ?_)
          obtain ⟨hIH747, hJH747, m749, m750, p751⟩ := r748
          have e752 : k0_2 = fZ H747 0 2 := e685.trans (m749 0 2).symm
          refine g_aload_n rfl ?_
          refine g_invvv hIH747 sm_0 rfl rfl rfl rfl (s_184 H747 hIH747 hJH747) (fun H753 r754 => ?_)
          obtain ⟨hIH753, hJH753, w755, m756, m757, p758⟩ := r754
          have e759 : k0_2 = fZ H753 0 2 := e752.trans w755.symm
          refine g_iconst (by decide) (fun v760 kv760 => ?_)
          refine g_istore_n (l' := [(0, .ref 0), (1, .int a1), (2, .int a2), (3, .int v760)]) rfl rfl ?_
          refine g_bipush (by decide) (fun v761 kv761 => ?_)
          refine g_istore (l' := [(0, .ref 0), (1, .int a1), (2, .int a2), (3, .int v760), (4, .int v761)]) rfl rfl ?_
          refine g_iconst (by decide) (fun v762 kv762 => ?_)
          refine g_istore (l' := [(0, .ref 0), (1, .int a1), (2, .int a2), (3, .int v760), (4, .int v761), (5, .int v762)]) rfl rfl ?_
          refine g_nop ?_
          have L768 : ∀ (N : Nat) (v763 : Int32) (v764 : Int32) (v765 : Int32) (H766 : mzH), gI SM H766 → JM H766 → k0_2 = fZ H766 0 2 → (-1 ≤ v763.toInt ∧ v763.toInt ≤ 2147483647) → (0 ≤ v765.toInt ∧ v765.toInt ≤ 60) → (60 - v765.toInt).toNat < N → gG 7 zB_249 (mzBlk zB_249 4) [(0, .ref 0), (1, .int a1), (2, .int a2), (3, .int v763), (4, .int v764), (5, .int v765)] [] H766 0 0 (gRi (fun v H' => gI SM H' ∧ JN H' ∧ fZ H' 0 2 = fZ H 0 2)) := by
            intro N
            induction N with
            | zero => intro v763 v764 v765 H766 hIH766 hJH766 e767 bv763 bv765 hmL768; exact absurd hmL768 (Nat.not_lt_zero _)
            | succ N ihL768 =>
              intro v763 v764 v765 H766 hIH766 hJH766 e767 bv763 bv765 hmL768
              refine g_iload rfl ?_
              refine g_aload_n rfl ?_
              refine g_gfi hIH766 sm_0 rfl (fun v769 ev769 lv769 uv769 => ?_)
              refine g_if2_ge (fun c770 => ?_) (fun c770 => ?_)
              · refine g_iload_n rfl ?_
                refine g_iconst (by decide) (fun v771 kv771 => ?_)
                refine g_if2_ne (fun c772 => ?_) (fun c772 => ?_)
                · refine g_iload_n rfl ?_
                  refine g_iconst (by decide) (fun v773 kv773 => ?_)
                  refine g_if2_ne (fun c774 => ?_) (fun c774 => ?_)
                  · refine g_iload_n rfl ?_
                    refine g_nop ?_
                    exact g_iret ⟨_, rfl, hIH766, (JM_n hJH766), (e767.symm.trans ek0_2)⟩
                  · refine g_iconst (by decide) (fun v775 kv775 => ?_)
                    refine g_goto ?_
                    exact g_iret ⟨_, rfl, hIH766, (JM_n hJH766), (e767.symm.trans ek0_2)⟩
                · refine g_iload rfl ?_
                  refine g_goto ?_
                  exact g_iret ⟨_, rfl, hIH766, (JM_n hJH766), (e767.symm.trans ek0_2)⟩
              · refine g_aload_n rfl ?_
                refine g_aload_n rfl ?_
                refine g_gfr hIH766 sm_0 rfl ?_
                refine g_iload rfl ?_
                refine g_iaload hIH766 sm_19 rfl (by omega) (fun v776 ev776 lv776 uv776 => ?_)
                refine g_invvv hIH766 sm_0 rfl rfl rfl rfl (s_192 v776 (by omega) H766 hIH766 hJH766) (fun H777 r778 => ?_)
                obtain ⟨hIH777, hJH777, m779, m780, m781, m782⟩ := r778
                have e783 : k0_2 = fZ H777 0 2 := e767.trans (m779 0 2).symm
                refine g_aload_n rfl ?_
                refine g_iload_n rfl ?_
                refine g_invvi hIH777 sm_0 rfl rfl rfl rfl (s_248 a1 H777 hIH777 hJH777) (fun v786 H784 r785 => ?_)
                obtain rfl := r785
                refine g_istore (l' := [(0, .ref 0), (1, .int a1), (2, .int a2), (3, .int v763), (4, .int v764), (5, .int v765), (6, .int v786)]) rfl rfl ?_
                refine g_iload rfl ?_
                refine g_iload_n rfl ?_
                refine g_if2_gt (fun c787 => ?_) (fun c787 => ?_)
                · refine g_iload rfl ?_
                  refine g_istore_n (l' := [(0, .ref 0), (1, .int a1), (2, .int a2), (3, .int v786), (4, .int v764), (5, .int v765), (6, .int v786)]) rfl rfl ?_
                  refine g_aload_n rfl ?_
                  refine g_gfr hIH777 sm_0 rfl ?_
                  refine g_aload_n rfl ?_
                  refine g_gfr hIH777 sm_0 rfl ?_
                  refine g_iload rfl ?_
                  refine g_iaload hIH777 sm_19 rfl (by omega) (fun v788 ev788 lv788 uv788 => ?_)
                  refine g_iaload hIH777 sm_18 rfl (by omega) (fun v789 ev789 lv789 uv789 => ?_)
                  refine g_istore (l' := [(0, .ref 0), (1, .int a1), (2, .int a2), (3, .int v786), (4, .int v789), (5, .int v765), (6, .int v786)]) rfl rfl ?_
                  refine g_nop ?_
                  refine g_iinc (l' := (fun v790 => [(0, .ref 0), (1, .int a1), (2, .int a2), (3, .int v786), (4, .int v789), (5, .int v790), (6, .int v786)])) rfl rfl (by decide) (by omega) (fun _ => rfl) (fun v790 ev790 => ?_)
                  refine g_goto ?_
                  refine gG_pick [0, 1, 2, 3, 4, 5] (l' := [(0, .ref 0), (1, .int a1), (2, .int a2), (3, .int v786), (4, .int v789), (5, .int v790)]) rfl ?_
                  exact ihL768 v786 v789 v790 H777 hIH777 hJH777 e783 (by have := gz_any v786; omega) (by omega) (by omega)
                · refine g_goto ?_
                  refine g_iinc (l' := (fun v791 => [(0, .ref 0), (1, .int a1), (2, .int a2), (3, .int v763), (4, .int v764), (5, .int v791), (6, .int v786)])) rfl rfl (by decide) (by omega) (fun _ => rfl) (fun v791 ev791 => ?_)
                  refine g_goto ?_
                  refine gG_pick [0, 1, 2, 3, 4, 5] (l' := [(0, .ref 0), (1, .int a1), (2, .int a2), (3, .int v763), (4, .int v764), (5, .int v791)]) rfl ?_
                  exact ihL768 v763 v764 v791 H777 hIH777 hJH777 e783 (by have := gz_any v763; omega) (by omega) (by omega)
          exact L768 _ v760 v761 v762 H753 hIH753 hJH753 e759 (by have := gz_any v760; omega) (by omega) (Nat.lt_succ_self _)
        · refine g_nop ?_
          refine g_iconst (by decide) (fun v792 kv792 => ?_)
          exact g_iret ⟨_, rfl, hIH684, hJH684, (e685.symm.trans ek0_2)⟩
    · refine g_iload_n rfl ?_
      refine g_bipush (by decide) (fun v793 kv793 => ?_)
      refine g_if2_ne (fun c794 => ?_) (fun c794 => ?_)
      · refine g_iconst (by decide) (fun v795 kv795 => ?_)
        exact g_iret ⟨_, rfl, hIH684, hJH684, (e685.symm.trans ek0_2)⟩
      · refine g_nop ?_
        refine g_iload_n rfl ?_
        refine g_if_lt (fun c796 => ?_) (fun c796 => ?_)
        · refine g_iconst (by decide) (fun v797 kv797 => ?_)
          exact g_iret ⟨_, rfl, hIH684, hJH684, (e685.symm.trans ek0_2)⟩
        · refine g_iload_n rfl ?_
          refine g_iconst (by decide) (fun v798 kv798 => ?_)
          refine g_if2_le (fun c799 => ?_) (fun c799 => ?_)
          · refine g_aload_n rfl ?_
            refine g_invvv hIH684 sm_0 rfl rfl rfl rfl (s_182 H684 hIH684 hJH684) (fun H800 r801 => ?_)
            obtain ⟨hIH800, hJH800, m802, m803, p804⟩ := r801
            have e805 : k0_2 = fZ H800 0 2 := e685.trans (m802 0 2).symm
            refine g_aload_n rfl ?_
            refine g_invvv hIH800 sm_0 rfl rfl rfl rfl (s_184 H800 hIH800 hJH800) (fun H806 r807 => ?_)
            obtain ⟨hIH806, hJH806, w808, m809, m810, p811⟩ := r807
            have e812 : k0_2 = fZ H806 0 2 := e805.trans w808.symm
            refine g_iconst (by decide) (fun v813 kv813 => ?_)
            refine g_istore_n (l' := [(0, .ref 0), (1, .int a1), (2, .int a2), (3, .int v813)]) rfl rfl ?_
            refine g_bipush (by decide) (fun v814 kv814 => ?_)
            refine g_istore (l' := [(0, .ref 0), (1, .int a1), (2, .int a2), (3, .int v813), (4, .int v814)]) rfl rfl ?_
            refine g_iconst (by decide) (fun v815 kv815 => ?_)
            refine g_istore (l' := [(0, .ref 0), (1, .int a1), (2, .int a2), (3, .int v813), (4, .int v814), (5, .int v815)]) rfl rfl ?_
            refine g_nop ?_
            have L821 : ∀ (N : Nat) (v816 : Int32) (v817 : Int32) (v818 : Int32) (H819 : mzH), gI SM H819 → JM H819 → k0_2 = fZ H819 0 2 → (-1 ≤ v816.toInt ∧ v816.toInt ≤ 2147483647) → (0 ≤ v818.toInt ∧ v818.toInt ≤ 60) → (60 - v818.toInt).toNat < N → gG 7 zB_249 (mzBlk zB_249 4) [(0, .ref 0), (1, .int a1), (2, .int a2), (3, .int v816), (4, .int v817), (5, .int v818)] [] H819 0 0 (gRi (fun v H' => gI SM H' ∧ JN H' ∧ fZ H' 0 2 = fZ H 0 2)) := by
              intro N
              induction N with
              | zero => intro v816 v817 v818 H819 hIH819 hJH819 e820 bv816 bv818 hmL821; exact absurd hmL821 (Nat.not_lt_zero _)
              | succ N ihL821 =>
                intro v816 v817 v818 H819 hIH819 hJH819 e820 bv816 bv818 hmL821
                refine g_iload rfl ?_
                refine g_aload_n rfl ?_
                refine g_gfi hIH819 sm_0 rfl (fun v822 ev822 lv822 uv822 => ?_)
                refine g_if2_ge (fun c823 => ?_) (fun c823 => ?_)
                · refine g_iload_n rfl ?_
                  refine g_iconst (by decide) (fun v824 kv824 => ?_)
                  refine g_if2_ne (fun c825 => ?_) (fun c825 => ?_)
                  · refine g_iload_n rfl ?_
                    refine g_iconst (by decide) (fun v826 kv826 => ?_)
                    refine g_if2_ne (fun c827 => ?_) (fun c827 => ?_)
                    · refine g_iload_n rfl ?_
                      refine g_nop ?_
                      exact g_iret ⟨_, rfl, hIH819, (JM_n hJH819), (e820.symm.trans ek0_2)⟩
                    · refine g_iconst (by decide) (fun v828 kv828 => ?_)
                      refine g_goto ?_
                      exact g_iret ⟨_, rfl, hIH819, (JM_n hJH819), (e820.symm.trans ek0_2)⟩
                  · refine g_iload rfl ?_
                    refine g_goto ?_
                    exact g_iret ⟨_, rfl, hIH819, (JM_n hJH819), (e820.symm.trans ek0_2)⟩
                · refine g_aload_n rfl ?_
                  refine g_aload_n rfl ?_
                  refine g_gfr hIH819 sm_0 rfl ?_
                  refine g_iload rfl ?_
                  refine g_iaload hIH819 sm_19 rfl (by omega) (fun v829 ev829 lv829 uv829 => ?_)
                  refine g_invvv hIH819 sm_0 rfl rfl rfl rfl (s_192 v829 (by omega) H819 hIH819 hJH819) (fun H830 r831 => ?_)
                  obtain ⟨hIH830, hJH830, m832, m833, m834, m835⟩ := r831
                  have e836 : k0_2 = fZ H830 0 2 := e820.trans (m832 0 2).symm
                  refine g_aload_n rfl ?_
                  refine g_iload_n rfl ?_
                  refine g_invvi hIH830 sm_0 rfl rfl rfl rfl (s_248 a1 H830 hIH830 hJH830) (fun v839 H837 r838 => ?_)
                  obtain rfl := r838
                  refine g_istore (l' := [(0, .ref 0), (1, .int a1), (2, .int a2), (3, .int v816), (4, .int v817), (5, .int v818), (6, .int v839)]) rfl rfl ?_
                  refine g_iload rfl ?_
                  refine g_iload_n rfl ?_
                  refine g_if2_gt (fun c840 => ?_) (fun c840 => ?_)
                  · refine g_iload rfl ?_
                    refine g_istore_n (l' := [(0, .ref 0), (1, .int a1), (2, .int a2), (3, .int v839), (4, .int v817), (5, .int v818), (6, .int v839)]) rfl rfl ?_
                    refine g_aload_n rfl ?_
                    refine g_gfr hIH830 sm_0 rfl ?_
                    refine g_aload_n rfl ?_
                    refine g_gfr hIH830 sm_0 rfl ?_
                    refine g_iload rfl ?_
                    refine g_iaload hIH830 sm_19 rfl (by omega) (fun v841 ev841 lv841 uv841 => ?_)
                    refine g_iaload hIH830 sm_18 rfl (by omega) (fun v842 ev842 lv842 uv842 => ?_)
                    refine g_istore (l' := [(0, .ref 0), (1, .int a1), (2, .int a2), (3, .int v839), (4, .int v842), (5, .int v818), (6, .int v839)]) rfl rfl ?_
                    refine g_nop ?_
                    refine g_iinc (l' := (fun v843 => [(0, .ref 0), (1, .int a1), (2, .int a2), (3, .int v839), (4, .int v842), (5, .int v843), (6, .int v839)])) rfl rfl (by decide) (by omega) (fun _ => rfl) (fun v843 ev843 => ?_)
                    refine g_goto ?_
                    refine gG_pick [0, 1, 2, 3, 4, 5] (l' := [(0, .ref 0), (1, .int a1), (2, .int a2), (3, .int v839), (4, .int v842), (5, .int v843)]) rfl ?_
                    exact ihL821 v839 v842 v843 H830 hIH830 hJH830 e836 (by have := gz_any v839; omega) (by omega) (by omega)
                  · refine g_goto ?_
                    refine g_iinc (l' := (fun v844 => [(0, .ref 0), (1, .int a1), (2, .int a2), (3, .int v816), (4, .int v817), (5, .int v844), (6, .int v839)])) rfl rfl (by decide) (by omega) (fun _ => rfl) (fun v844 ev844 => ?_)
                    refine g_goto ?_
                    refine gG_pick [0, 1, 2, 3, 4, 5] (l' := [(0, .ref 0), (1, .int a1), (2, .int a2), (3, .int v816), (4, .int v817), (5, .int v844)]) rfl ?_
                    exact ihL821 v816 v817 v844 H830 hIH830 hJH830 e836 (by have := gz_any v816; omega) (by omega) (by omega)
            exact L821 _ v813 v814 v815 H806 hIH806 hJH806 e812 (by have := gz_any v813; omega) (by omega) (Nat.lt_succ_self _)
          · refine g_nop ?_
            refine g_iconst (by decide) (fun v845 kv845 => ?_)
            exact g_iret ⟨_, rfl, hIH684, hJH684, (e685.symm.trans ek0_2)⟩
set_option maxRecDepth 4000 in
set_option maxHeartbeats 4000000 in
/-- M.travelled -/
theorem s_250 (a1 : Int32) (H : mzH) (hI : gI SM H) (hJ : JN H) : gCall 250 [.ref 0, .int a1] H (gRi (fun v H' => gI SM H' ∧ JN H' ∧ fZ H' 0 2 = fZ H 0 2)) := by
  obtain ⟨k0_2, ek0_2⟩ : ∃ z, z = fZ H 0 2 := ⟨_, rfl⟩
  have ik0_2 : k0_2.toInt = (fZ H 0 2).toInt := by rw [← ek0_2]
  have bk0_2 : 0 ≤ k0_2.toInt ∧ k0_2.toInt ≤ 900 := by rw [ek0_2]; exact fZ_of hI sm_0 rfl
  refine gG_call [(0, .ref 0), (1, .int a1)] ⟨rfl, rfl, trivial⟩ ?_
  show gG 6 zB_250 (mzBlk zB_250 0) [(0, .ref 0), (1, .int a1)] [] H 0 0 _
  refine g_aload_n rfl ?_
  refine g_iconst (by decide) (fun v444 kv444 => ?_)
  refine g_pfi hI sm_0 rfl (gz_any _) (fun H445 eH445 hIH445 => ?_)
  have hJH445 : JN H445 := JN_sF eH445 hJ
  have e446 : k0_2 = fZ H445 0 2 := by rw [eH445, fZ_sF_ne (by decide)]; exact ek0_2
  refine g_iload_n rfl ?_
  refine g_invti rfl rfl rfl (s_205 a1 H445 hIH445 hJH445) (fun v449 H447 r448 => ?_)
  obtain ⟨rfl, bv449, p450⟩ := r448
  refine g_if_ne (fun c451 => ?_) (fun c451 => ?_)
  · refine g_aload_n rfl ?_
    refine g_iload_n rfl ?_
    refine g_invvv hIH445 sm_0 rfl rfl rfl rfl (s_214 a1 (by omega) H445 hIH445 hJH445) (fun H452 r453 => ?_)
    obtain ⟨hIH452, hJH452, w454⟩ := r453
    have e455 : k0_2 = fZ H452 0 2 := e446.trans w454.symm
    refine g_iconst (by decide) (fun v456 kv456 => ?_)
    refine g_istore_n (l' := [(0, .ref 0), (1, .int a1), (2, .int v456)]) rfl rfl ?_
    refine g_iconst (by decide) (fun v457 kv457 => ?_)
    refine g_istore_n (l' := [(0, .ref 0), (1, .int a1), (2, .int v456), (3, .int v457)]) rfl rfl ?_
    refine g_iconst (by decide) (fun v458 kv458 => ?_)
    refine g_istore (l' := [(0, .ref 0), (1, .int a1), (2, .int v456), (3, .int v457), (4, .int v458)]) rfl rfl ?_
    refine g_nop ?_
    have L462 : ∀ (N : Nat) (v459 : Int32) (v460 : Int32) (v461 : Int32), (-1 ≤ v460.toInt ∧ v460.toInt ≤ 7) → (0 ≤ v461.toInt ∧ v461.toInt ≤ 60) → (60 - v461.toInt).toNat < N → gG 6 zB_250 (mzBlk zB_250 2) [(0, .ref 0), (1, .int a1), (2, .int v459), (3, .int v460), (4, .int v461)] [] H452 0 0 (gRi (fun v H' => gI SM H' ∧ JN H' ∧ fZ H' 0 2 = fZ H 0 2)) := by
      intro N
      induction N with
      | zero => intro v459 v460 v461 bv460 bv461 hmL462; exact absurd hmL462 (Nat.not_lt_zero _)
      | succ N ihL462 =>
        intro v459 v460 v461 bv460 bv461 hmL462
        refine g_iload rfl ?_
        refine g_aload_n rfl ?_
        refine g_gfi hIH452 sm_0 rfl (fun v463 ev463 lv463 uv463 => ?_)
        refine g_if2_ge (fun c464 => ?_) (fun c464 => ?_)
        · refine g_aload_n rfl ?_
          refine g_gfi hIH452 sm_0 rfl (fun v465 ev465 lv465 uv465 => ?_)
          refine g_if_ne (fun c466 => ?_) (fun c466 => ?_)
          · refine g_iload_n rfl ?_
            refine g_nop ?_
            exact g_iret ⟨_, rfl, hIH452, (JM_n hJH452), (e455.symm.trans ek0_2)⟩
          · refine g_bipush (by decide) (fun v467 kv467 => ?_)
            refine g_goto ?_
            exact g_iret ⟨_, rfl, hIH452, (JM_n hJH452), (e455.symm.trans ek0_2)⟩
        · refine g_aload_n rfl ?_
          refine g_gfr hIH452 sm_0 rfl ?_
          refine g_iload rfl ?_
          refine g_iaload hIH452 sm_22 rfl (by omega) (fun v468 ev468 lv468 uv468 => ?_)
          refine g_istore (l' := [(0, .ref 0), (1, .int a1), (2, .int v459), (3, .int v460), (4, .int v461), (5, .int v468)]) rfl rfl ?_
          refine g_iload rfl ?_
          refine g_if_ge (fun c469 => ?_) (fun c469 => ?_)
          · refine g_iload_n rfl ?_
            refine g_iconst (by decide) (fun v470 kv470 => ?_)
            refine g_if2_eq (fun c471 => ?_) (fun c471 => ?_)
            · refine g_iload rfl ?_
              refine g_istore_n (l' := [(0, .ref 0), (1, .int a1), (2, .int v459), (3, .int v468), (4, .int v461), (5, .int v468)]) rfl rfl ?_
              refine g_nop ?_
              refine g_iinc (l' := (fun v472 => [(0, .ref 0), (1, .int a1), (2, .int v459), (3, .int v468), (4, .int v472), (5, .int v468)])) rfl rfl (by decide) (by omega) (fun _ => rfl) (fun v472 ev472 => ?_)
              refine g_goto ?_
              refine gG_pick [0, 1, 2, 3, 4] (l' := [(0, .ref 0), (1, .int a1), (2, .int v459), (3, .int v468), (4, .int v472)]) rfl ?_
              exact ihL462 v459 v468 v472 (by omega) (by omega) (by omega)
            · refine g_aload_n rfl ?_
              refine g_gfr hIH452 sm_0 rfl ?_
              refine g_bipush (by decide) (fun v473 kv473 => ?_)
              refine g_iload_n rfl ?_
              refine g_imulk' (n := 8) kv473 (by omega) (fun v474 ev474 => ?_)
              refine g_iload rfl ?_
              refine g_iadd (by omega) (fun v475 ev475 => ?_)
              refine g_iaload hIH452 sm_6 rfl (by omega) (fun v476 ev476 lv476 uv476 => ?_)
              refine g_ldc (by decide) (fun v477 kv477 => ?_)
              refine g_if2_ge (fun c478 => ?_) (fun c478 => ?_)
              · refine g_iload rfl ?_
                refine g_istore_n (l' := [(0, .ref 0), (1, .int a1), (2, .int v459), (3, .int v468), (4, .int v461), (5, .int v468)]) rfl rfl ?_
                refine g_nop ?_
                refine g_iinc (l' := (fun v479 => [(0, .ref 0), (1, .int a1), (2, .int v459), (3, .int v468), (4, .int v479), (5, .int v468)])) rfl rfl (by decide) (by omega) (fun _ => rfl) (fun v479 ev479 => ?_)
                refine g_goto ?_
                refine gG_pick [0, 1, 2, 3, 4] (l' := [(0, .ref 0), (1, .int a1), (2, .int v459), (3, .int v468), (4, .int v479)]) rfl ?_
                exact ihL462 v459 v468 v479 (by omega) (by omega) (by omega)
              · refine g_iload_n rfl ?_
                refine g_aload_n rfl ?_
                refine g_gfr hIH452 sm_0 rfl ?_
                refine g_bipush (by decide) (fun v480 kv480 => ?_)
                refine g_iload_n rfl ?_
                refine g_imulk' (n := 8) kv480 (by omega) (fun v481 ev481 => ?_)
                refine g_iload rfl ?_
                refine g_iadd (by omega) (fun v482 ev482 => ?_)
                refine g_iaload hIH452 sm_6 rfl (by omega) (fun v483 ev483 lv483 uv483 => ?_)
                refine g_iadd' (fun v484 _ => ?_)
                refine g_istore_n (l' := [(0, .ref 0), (1, .int a1), (2, .int v484), (3, .int v460), (4, .int v461), (5, .int v468)]) rfl rfl ?_
                refine g_nop ?_
                refine g_iload rfl ?_
                refine g_istore_n (l' := [(0, .ref 0), (1, .int a1), (2, .int v484), (3, .int v468), (4, .int v461), (5, .int v468)]) rfl rfl ?_
                refine g_nop ?_
                refine g_iinc (l' := (fun v485 => [(0, .ref 0), (1, .int a1), (2, .int v484), (3, .int v468), (4, .int v485), (5, .int v468)])) rfl rfl (by decide) (by omega) (fun _ => rfl) (fun v485 ev485 => ?_)
                refine g_goto ?_
                refine gG_pick [0, 1, 2, 3, 4] (l' := [(0, .ref 0), (1, .int a1), (2, .int v484), (3, .int v468), (4, .int v485)]) rfl ?_
                exact ihL462 v484 v468 v485 (by omega) (by omega) (by omega)
          · refine g_goto ?_
            refine g_iinc (l' := (fun v486 => [(0, .ref 0), (1, .int a1), (2, .int v459), (3, .int v460), (4, .int v486), (5, .int v468)])) rfl rfl (by decide) (by omega) (fun _ => rfl) (fun v486 ev486 => ?_)
            refine g_goto ?_
            refine gG_pick [0, 1, 2, 3, 4] (l' := [(0, .ref 0), (1, .int a1), (2, .int v459), (3, .int v460), (4, .int v486)]) rfl ?_
            exact ihL462 v459 v460 v486 (by omega) (by omega) (by omega)
    exact L462 _ v456 v457 v458 (by omega) (by omega) (Nat.lt_succ_self _)
  · refine g_iconst (by decide) (fun v487 kv487 => ?_)
    exact g_iret ⟨_, rfl, hIH445, hJH445, (e446.symm.trans ek0_2)⟩
set_option maxRecDepth 4000 in
set_option maxHeartbeats 4000000 in
/-- M.lates -/
theorem s_252 (H : mzH) (hI : gI SM H) (hJ : JN H) : gCall 252 [.ref 0] H (gRi (fun v H' => H = H')) := by
  refine gG_call [(0, .ref 0)] ⟨rfl, trivial⟩ ?_
  show gG 3 zB_252 (mzBlk zB_252 0) [(0, .ref 0)] [] H 0 0 _
  refine g_iconst (by decide) (fun v519 kv519 => ?_)
  refine g_istore_n (l' := [(0, .ref 0), (1, .int v519)]) rfl rfl ?_
  refine g_iconst (by decide) (fun v520 kv520 => ?_)
  refine g_istore_n (l' := [(0, .ref 0), (1, .int v519), (2, .int v520)]) rfl rfl ?_
  refine g_nop ?_
  have L523 : ∀ (N : Nat) (v521 : Int32) (v522 : Int32), (0 ≤ v522.toInt ∧ v522.toInt ≤ 60) → (60 - v522.toInt).toNat < N → gG 3 zB_252 (mzBlk zB_252 1) [(0, .ref 0), (1, .int v521), (2, .int v522)] [] H 0 0 (gRi (fun v H' => H = H')) := by
    intro N
    induction N with
    | zero => intro v521 v522 bv522 hmL523; exact absurd hmL523 (Nat.not_lt_zero _)
    | succ N ihL523 =>
      intro v521 v522 bv522 hmL523
      refine g_iload_n rfl ?_
      refine g_aload_n rfl ?_
      refine g_invvi hI sm_0 rfl rfl rfl rfl (s_180 H hI hJ) (fun v526 H524 r525 => ?_)
      obtain ⟨rfl, bv526, p527⟩ := r525
      refine g_if2_ge (fun c528 => ?_) (fun c528 => ?_)
      · refine g_iload_n rfl ?_
        exact g_iret ⟨_, rfl, rfl⟩
      · refine g_iload_n rfl ?_
        refine g_aload_n rfl ?_
        refine g_iload_n rfl ?_
        refine g_invvi hI sm_0 rfl rfl rfl rfl (s_204 v522 (by omega) H hI hJ) (fun v531 H529 r530 => ?_)
        obtain ⟨rfl, bv531⟩ := r530
        refine g_if_eq (fun c532 => ?_) (fun c532 => ?_)
        · refine g_iconst (by decide) (fun v533 kv533 => ?_)
          refine g_nop ?_
          refine g_iadd (by have := gz_any v521; omega) (fun v534 ev534 => ?_)
          refine g_istore_n (l' := [(0, .ref 0), (1, .int v534), (2, .int v522)]) rfl rfl ?_
          refine g_iinc (l' := (fun v535 => [(0, .ref 0), (1, .int v534), (2, .int v535)])) rfl rfl (by decide) (by omega) (fun _ => rfl) (fun v535 ev535 => ?_)
          refine g_goto ?_
          exact ihL523 v534 v535 (by omega) (by omega)
        · refine g_iconst (by decide) (fun v536 kv536 => ?_)
          refine g_goto ?_
          refine g_iadd' (fun v537 _ => ?_)
          refine g_istore_n (l' := [(0, .ref 0), (1, .int v537), (2, .int v522)]) rfl rfl ?_
          refine g_iinc (l' := (fun v538 => [(0, .ref 0), (1, .int v537), (2, .int v538)])) rfl rfl (by decide) (by omega) (fun _ => rfl) (fun v538 ev538 => ?_)
          refine g_goto ?_
          exact ihL523 v537 v538 (by omega) (by omega)
  exact L523 _ v519 v520 (by omega) (Nat.lt_succ_self _)
set_option maxRecDepth 4000 in
set_option maxHeartbeats 4000000 in
/-- M.count -/
theorem s_251 (a1 : Int32) (H : mzH) (hI : gI SM H) (hJ : JN H) : gCall 251 [.ref 0, .int a1] H (gRi (fun v H' => gI SM H' ∧ JN H' ∧ fZ H' 0 2 = fZ H 0 2)) := by
  obtain ⟨k0_2, ek0_2⟩ : ∃ z, z = fZ H 0 2 := ⟨_, rfl⟩
  have ik0_2 : k0_2.toInt = (fZ H 0 2).toInt := by rw [← ek0_2]
  have bk0_2 : 0 ≤ k0_2.toInt ∧ k0_2.toInt ≤ 900 := by rw [ek0_2]; exact fZ_of hI sm_0 rfl
  refine gG_call [(0, .ref 0), (1, .int a1)] ⟨rfl, rfl, trivial⟩ ?_
  show gG 2 zB_251 (mzBlk zB_251 0) [(0, .ref 0), (1, .int a1)] [] H 0 0 _
  refine g_aload_n rfl ?_
  refine g_iconst (by decide) (fun v81 kv81 => ?_)
  refine g_pfi hI sm_0 rfl (gz_any _) (fun H82 eH82 hIH82 => ?_)
  have hJH82 : JN H82 := JN_sF eH82 hJ
  have e83 : k0_2 = fZ H82 0 2 := by rw [eH82, fZ_sF_ne (by decide)]; exact ek0_2
  refine g_iload_n rfl ?_
  refine g_sw (by decide) (fun c84 => ?_) ⟨fun c84 => ?_, fun c84 => ?_, fun c84 => ?_, fun c84 => ?_, fun c84 => ?_, fun c84 => ?_, fun c84 => ?_, trivial⟩
  · refine g_iconst (by decide) (fun v85 kv85 => ?_)
    exact g_iret ⟨_, rfl, hIH82, hJH82, (e83.symm.trans ek0_2)⟩
  · refine g_aload_n rfl ?_
    refine g_gfr hIH82 sm_0 rfl ?_
    refine g_iconst (by decide) (fun v86 kv86 => ?_)
    refine g_iaload hIH82 sm_2 rfl (by omega) (fun v87 ev87 lv87 uv87 => ?_)
    have qv87 := JN_n20 hJH82 (v := v87) (by rw [ev87, show v86.toInt.toNat = 0 from by omega])
    exact g_iret ⟨_, rfl, hIH82, hJH82, (e83.symm.trans ek0_2)⟩
  · refine g_aload_n rfl ?_
    refine g_gfr hIH82 sm_0 rfl ?_
    refine g_iconst (by decide) (fun v88 kv88 => ?_)
    refine g_iaload hIH82 sm_2 rfl (by omega) (fun v89 ev89 lv89 uv89 => ?_)
    exact g_iret ⟨_, rfl, hIH82, hJH82, (e83.symm.trans ek0_2)⟩
  · refine g_aload_n rfl ?_
    refine g_invvi hIH82 sm_0 rfl rfl rfl rfl (s_180 H82 hIH82 hJH82) (fun v92 H90 r91 => ?_)
    obtain ⟨rfl, bv92, p93⟩ := r91
    exact g_iret ⟨_, rfl, hIH82, hJH82, (e83.symm.trans ek0_2)⟩
  · refine g_aload_n rfl ?_
    refine g_invvi hIH82 sm_0 rfl rfl rfl rfl (s_252 H82 hIH82 hJH82) (fun v96 H94 r95 => ?_)
    obtain rfl := r95
    exact g_iret ⟨_, rfl, hIH82, hJH82, (e83.symm.trans ek0_2)⟩
  · refine g_aload_n rfl ?_
    refine g_gfr hIH82 sm_0 rfl ?_
    refine g_iconst (by decide) (fun v97 kv97 => ?_)
    refine g_iaload hIH82 sm_2 rfl (by omega) (fun v98 ev98 lv98 uv98 => ?_)
    exact g_iret ⟨_, rfl, hIH82, hJH82, (e83.symm.trans ek0_2)⟩
  · refine g_aload_n rfl ?_
    refine g_gfr hIH82 sm_0 rfl ?_
    refine g_iconst (by decide) (fun v99 kv99 => ?_)
    refine g_iaload hIH82 sm_2 rfl (by omega) (fun v100 ev100 lv100 uv100 => ?_)
    exact g_iret ⟨_, rfl, hIH82, hJH82, (e83.symm.trans ek0_2)⟩
  · refine g_aload_n rfl ?_
    refine g_gfk hIH82 sm_0 rfl e83 ?_
    exact g_iret ⟨_, rfl, hIH82, hJH82, (e83.symm.trans ek0_2)⟩
