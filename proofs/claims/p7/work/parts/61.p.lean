set_option maxRecDepth 4000 in
set_option maxHeartbeats 4000000 in
/-- M.cause -/
theorem s_231 (a1 : Int32) (H : mzH) (hI : gI SM H) (hJ : JN H) : gCall 231 [.ref 0, .int a1] H (gRi (fun v H' => gI SM H' ∧ JN H' ∧ fZ H' 0 2 = fZ H 0 2 ∧ kpM H H')) := by
  obtain ⟨k0_2, ek0_2⟩ : ∃ z, z = fZ H 0 2 := ⟨_, rfl⟩
  have ik0_2 : k0_2.toInt = (fZ H 0 2).toInt := by rw [← ek0_2]
  have bk0_2 : 0 ≤ k0_2.toInt ∧ k0_2.toInt ≤ 900 := by rw [ek0_2]; exact fZ_of hI sm_0 rfl
  have mkfr : kpM H H := kpM_r
  refine gG_call [(0, .ref 0), (1, .int a1)] ⟨rfl, rfl, trivial⟩ ?_
  show gG 3 zB_231 (mzBlk zB_231 0) [(0, .ref 0), (1, .int a1)] [] H 0 0 _
  refine g_aload_n rfl ?_
  refine g_iconst (by decide) (fun v369 kv369 => ?_)
  refine g_pfi hI sm_0 rfl (gz_any _) (fun H370 eH370 hIH370 => ?_)
  have hJH370 : JN H370 := JN_sF eH370 hJ
  have e371 : k0_2 = fZ H370 0 2 := by rw [eH370, fZ_sF_ne (by decide)]; exact ek0_2
  have m372 : kpM H H370 := kpM_F mkfr eH370 (by first | with_reducible assumption | omega)
  refine g_iload_n rfl ?_
  refine g_if_lt (fun c373 => ?_) (fun c373 => ?_)
  · refine g_iconst (by decide) (fun v374 kv374 => ?_)
    exact g_iret ⟨_, rfl, hIH370, hJH370, (e371.symm.trans ek0_2), m372⟩
  · refine g_iload_n rfl ?_
    refine g_aload_n rfl ?_
    refine g_invvi hIH370 sm_0 rfl rfl rfl rfl (s_181 H370 hIH370 hJH370) (fun v377 H375 r376 => ?_)
    obtain ⟨rfl, bv377, p378⟩ := r376
    refine g_if2_lt (fun c379 => ?_) (fun c379 => ?_)
    · refine g_aload_n rfl ?_
      refine g_iload_n rfl ?_
      refine g_invvi hIH370 sm_0 rfl rfl rfl rfl (s_230 a1 (by first | with_reducible assumption | omega) H370 hIH370 hJH370) (fun v382 H380 r381 => ?_)
      obtain ⟨hIH380, hJH380, bv382, w383, m384⟩ := r381
      have e385 : k0_2 = fZ H380 0 2 := e371.trans w383.symm
      have m386 : kpM H H380 := kpM_t m372 m384
      refine g_if_ne (fun c387 => ?_) (fun c387 => ?_)
      · refine g_iconst (by decide) (fun v388 kv388 => ?_)
        refine g_istore_n (l' := [(0, .ref 0), (1, .int a1), (2, .int v388)]) rfl rfl ?_
        refine g_nop ?_
        have L393 : ∀ (N : Nat) (v389 : Int32) (H390 : mzH), gI SM H390 → JN H390 → k0_2 = fZ H390 0 2 → kpM H H390 → (0 ≤ v389.toInt ∧ v389.toInt ≤ 60) → (60 - v389.toInt).toNat < N → gG 3 zB_231 (mzBlk zB_231 4) [(0, .ref 0), (1, .int a1), (2, .int v389)] [] H390 0 0 (gRi (fun v H' => gI SM H' ∧ JN H' ∧ fZ H' 0 2 = fZ H 0 2 ∧ kpM H H')) := by
          intro N
          induction N with
          | zero => intro v389 H390 hIH390 hJH390 e391 m392 bv389 hmL393; exact absurd hmL393 (Nat.not_lt_zero _)
          | succ N ihL393 =>
            intro v389 H390 hIH390 hJH390 e391 m392 bv389 hmL393
            refine g_iload_n rfl ?_
            refine g_aload_n rfl ?_
            refine g_invvi hIH390 sm_0 rfl rfl rfl rfl (s_181 H390 hIH390 hJH390) (fun v396 H394 r395 => ?_)
            obtain ⟨rfl, bv396, p397⟩ := r395
            refine g_if2_ge (fun c398 => ?_) (fun c398 => ?_)
            · refine g_bipush (by decide) (fun v399 kv399 => ?_)
              exact g_iret ⟨_, rfl, hIH390, hJH390, (e391.symm.trans ek0_2), m392⟩
            · refine g_iload_n rfl ?_
              refine g_iload_n rfl ?_
              refine g_if2_ne (fun c400 => ?_) (fun c400 => ?_)
              · refine g_aload_n rfl ?_
                refine g_iload_n rfl ?_
                refine g_iconst (by decide) (fun v401 kv401 => ?_)
                refine g_invvv hIH390 sm_0 rfl rfl rfl rfl (s_223 v389 (by first | with_reducible assumption | omega) v401 (by first | with_reducible assumption | omega) H390 hIH390 hJH390) (fun H402 r403 => ?_)
                obtain ⟨hIH402, hJH402, w404, w405, m406⟩ := r403
                have e407 : k0_2 = fZ H402 0 2 := e391.trans w404.symm
                have m408 : kpM H H402 := kpM_t m392 m406
                refine g_aload_n rfl ?_
                refine g_gfr hIH402 sm_0 rfl ?_
                refine g_iload_n rfl ?_
                refine g_iaload hIH402 sm_20 rfl (by first | with_reducible assumption | omega) (fun v409 ev409 lv409 uv409 => ?_)
                refine g_if_ne (fun c410 => ?_) (fun c410 => ?_)
                · refine g_iinc (l' := (fun v411 => [(0, .ref 0), (1, .int a1), (2, .int v411)])) rfl rfl (by decide) (by first | with_reducible assumption | omega) (fun _ => rfl) (fun v411 ev411 => ?_)
                  refine g_goto ?_
                  exact ihL393 v411 H402 hIH402 (JM_n hJH402) e407 m408 (by first | with_reducible assumption | omega) (by first | with_reducible assumption | omega)
                · refine g_iload_n rfl ?_
                  exact g_iret ⟨_, rfl, hIH402, (JM_n hJH402), (e407.symm.trans ek0_2), m408⟩
              · refine g_goto ?_
                refine g_iinc (l' := (fun v412 => [(0, .ref 0), (1, .int a1), (2, .int v412)])) rfl rfl (by decide) (by first | with_reducible assumption | omega) (fun _ => rfl) (fun v412 ev412 => ?_)
                refine g_goto ?_
                exact ihL393 v412 H390 hIH390 hJH390 e391 m392 (by first | with_reducible assumption | omega) (by first | with_reducible assumption | omega)
        exact L393 _ v388 H380 hIH380 hJH380 e385 m386 (by first | with_reducible assumption | omega) (Nat.lt_succ_self _)
      · refine g_bipush (by decide) (fun v413 kv413 => ?_)
        exact g_iret ⟨_, rfl, hIH380, hJH380, (e385.symm.trans ek0_2), m386⟩
    · refine g_nop ?_
      refine g_iconst (by decide) (fun v414 kv414 => ?_)
      exact g_iret ⟨_, rfl, hIH370, hJH370, (e371.symm.trans ek0_2), m372⟩
set_option maxRecDepth 4000 in
set_option maxHeartbeats 4000000 in
/-- M.needs -/
theorem s_232 (a1 : Int32) (a2 : Int32) (H : mzH) (hI : gI SM H) (hJ : JN H) : gCall 232 [.ref 0, .int a1, .int a2] H (gRi (fun v H' => gI SM H' ∧ JN H' ∧ fZ H' 0 2 = fZ H 0 2 ∧ kpM H H')) := by
  obtain ⟨k0_2, ek0_2⟩ : ∃ z, z = fZ H 0 2 := ⟨_, rfl⟩
  have ik0_2 : k0_2.toInt = (fZ H 0 2).toInt := by rw [← ek0_2]
  have bk0_2 : 0 ≤ k0_2.toInt ∧ k0_2.toInt ≤ 900 := by rw [ek0_2]; exact fZ_of hI sm_0 rfl
  have mkfr : kpM H H := kpM_r
  refine gG_call [(0, .ref 0), (1, .int a1), (2, .int a2)] ⟨rfl, rfl, rfl, trivial⟩ ?_
  show gG 5 zB_232 (mzBlk zB_232 0) [(0, .ref 0), (1, .int a1), (2, .int a2)] [] H 0 0 _
  refine g_aload_n rfl ?_
  refine g_iconst (by decide) (fun v447 kv447 => ?_)
  refine g_pfi hI sm_0 rfl (gz_any _) (fun H448 eH448 hIH448 => ?_)
  have hJH448 : JN H448 := JN_sF eH448 hJ
  have e449 : k0_2 = fZ H448 0 2 := by rw [eH448, fZ_sF_ne (by decide)]; exact ek0_2
  have m450 : kpM H H448 := kpM_F mkfr eH448 (by first | with_reducible assumption | omega)
  refine g_iload_n rfl ?_
  refine g_if_lt (fun c451 => ?_) (fun c451 => ?_)
  · refine g_iconst (by decide) (fun v452 kv452 => ?_)
    exact g_iret ⟨_, rfl, hIH448, hJH448, (e449.symm.trans ek0_2), m450⟩
  · refine g_iload_n rfl ?_
    refine g_aload_n rfl ?_
    refine g_invvi hIH448 sm_0 rfl rfl rfl rfl (s_181 H448 hIH448 hJH448) (fun v455 H453 r454 => ?_)
    obtain ⟨rfl, bv455, p456⟩ := r454
    refine g_if2_ge (fun c457 => ?_) (fun c457 => ?_)
    · refine g_iconst (by decide) (fun v458 kv458 => ?_)
      exact g_iret ⟨_, rfl, hIH448, hJH448, (e449.symm.trans ek0_2), m450⟩
    · refine g_iload_n rfl ?_
      refine g_if_ge (fun c459 => ?_) (fun c459 => ?_)
      · refine g_aload_n rfl ?_
        refine g_iload_n rfl ?_
        refine g_invvi hIH448 sm_0 rfl rfl rfl rfl (s_230 a1 (by first | with_reducible assumption | omega) H448 hIH448 hJH448) (fun v462 H460 r461 => ?_)
        obtain ⟨hIH460, hJH460, bv462, w463, m464⟩ := r461
        have e465 : k0_2 = fZ H460 0 2 := e449.trans w463.symm
        have m466 : kpM H H460 := kpM_t m450 m464
        refine g_if_eq (fun c467 => ?_) (fun c467 => ?_)
        · refine g_iload_n rfl ?_
          refine g_istore_n (l' := [(0, .ref 0), (1, .int a1), (2, .int a2), (3, .int a2)]) rfl rfl ?_
          refine g_iconst (by decide) (fun v468 kv468 => ?_)
          refine g_istore (l' := [(0, .ref 0), (1, .int a1), (2, .int a2), (3, .int a2), (4, .int v468)]) rfl rfl ?_
          refine g_nop ?_
          have L474 : ∀ (N : Nat) (v469 : Int32) (v470 : Int32) (H471 : mzH), gI SM H471 → JN H471 → k0_2 = fZ H471 0 2 → kpM H H471 → (0 ≤ v469.toInt ∧ v469.toInt ≤ 2147483647) → (0 ≤ v470.toInt ∧ v470.toInt ≤ 60) → (60 - v470.toInt).toNat < N → gG 5 zB_232 (mzBlk zB_232 4) [(0, .ref 0), (1, .int a1), (2, .int a2), (3, .int v469), (4, .int v470)] [] H471 0 0 (gRi (fun v H' => gI SM H' ∧ JN H' ∧ fZ H' 0 2 = fZ H 0 2 ∧ kpM H H')) := by
            intro N
            induction N with
            | zero => intro v469 v470 H471 hIH471 hJH471 e472 m473 bv469 bv470 hmL474; exact absurd hmL474 (Nat.not_lt_zero _)
            | succ N ihL474 =>
              intro v469 v470 H471 hIH471 hJH471 e472 m473 bv469 bv470 hmL474
              refine g_iload rfl ?_
              refine g_aload_n rfl ?_
              refine g_invvi hIH471 sm_0 rfl rfl rfl rfl (s_181 H471 hIH471 hJH471) (fun v477 H475 r476 => ?_)
              obtain ⟨rfl, bv477, p478⟩ := r476
              refine g_if2_ge (fun c479 => ?_) (fun c479 => ?_)
              · refine g_bipush (by decide) (fun v480 kv480 => ?_)
                exact g_iret ⟨_, rfl, hIH471, hJH471, (e472.symm.trans ek0_2), m473⟩
              · refine g_iload rfl ?_
                refine g_iload_n rfl ?_
                refine g_if2_ne (fun c481 => ?_) (fun c481 => ?_)
                · refine g_aload_n rfl ?_
                  refine g_iload rfl ?_
                  refine g_iconst (by decide) (fun v482 kv482 => ?_)
                  refine g_invvv hIH471 sm_0 rfl rfl rfl rfl (s_223 v470 (by first | with_reducible assumption | omega) v482 (by first | with_reducible assumption | omega) H471 hIH471 hJH471) (fun H483 r484 => ?_)
                  obtain ⟨hIH483, hJH483, w485, w486, m487⟩ := r484
                  have e488 : k0_2 = fZ H483 0 2 := e472.trans w485.symm
                  have m489 : kpM H H483 := kpM_t m473 m487
                  refine g_aload_n rfl ?_
                  refine g_gfr hIH483 sm_0 rfl ?_
                  refine g_iload_n rfl ?_
                  refine g_iaload hIH483 sm_20 rfl (by first | with_reducible assumption | omega) (fun v490 ev490 lv490 uv490 => ?_)
                  refine g_if_ne (fun c491 => ?_) (fun c491 => ?_)
                  · refine g_iload_n rfl ?_
                    refine g_if_ne (fun c492 => ?_) (fun c492 => ?_)
                    · refine g_iinc (l' := (fun v493 => [(0, .ref 0), (1, .int a1), (2, .int a2), (3, .int v493), (4, .int v470)])) rfl rfl (by decide) (by have := gz_any v469; omega) (fun _ => rfl) (fun v493 ev493 => ?_)
                      refine g_nop ?_
                      refine g_iinc (l' := (fun v494 => [(0, .ref 0), (1, .int a1), (2, .int a2), (3, .int v493), (4, .int v494)])) rfl rfl (by decide) (by first | with_reducible assumption | omega) (fun _ => rfl) (fun v494 ev494 => ?_)
                      refine g_goto ?_
                      exact ihL474 v493 v494 H483 hIH483 (JM_n hJH483) e488 m489 (by have := gz_any v493; omega) (by first | with_reducible assumption | omega) (by first | with_reducible assumption | omega)
                    · refine g_iload rfl ?_
                      exact g_iret ⟨_, rfl, hIH483, (JM_n hJH483), (e488.symm.trans ek0_2), m489⟩
                  · refine g_goto ?_
                    refine g_iinc (l' := (fun v495 => [(0, .ref 0), (1, .int a1), (2, .int a2), (3, .int v469), (4, .int v495)])) rfl rfl (by decide) (by first | with_reducible assumption | omega) (fun _ => rfl) (fun v495 ev495 => ?_)
                    refine g_goto ?_
                    exact ihL474 v469 v495 H483 hIH483 (JM_n hJH483) e488 m489 (by have := gz_any v469; omega) (by first | with_reducible assumption | omega) (by first | with_reducible assumption | omega)
                · refine g_goto ?_
                  refine g_iinc (l' := (fun v496 => [(0, .ref 0), (1, .int a1), (2, .int a2), (3, .int v469), (4, .int v496)])) rfl rfl (by decide) (by first | with_reducible assumption | omega) (fun _ => rfl) (fun v496 ev496 => ?_)
                  refine g_goto ?_
                  exact ihL474 v469 v496 H471 hIH471 hJH471 e472 m473 (by have := gz_any v469; omega) (by first | with_reducible assumption | omega) (by first | with_reducible assumption | omega)
          exact L474 _ a2 v468 H460 hIH460 hJH460 e465 m466 (by have := gz_any a2; omega) (by first | with_reducible assumption | omega) (Nat.lt_succ_self _)
        · refine g_bipush (by decide) (fun v497 kv497 => ?_)
          exact g_iret ⟨_, rfl, hIH460, hJH460, (e465.symm.trans ek0_2), m466⟩
      · refine g_nop ?_
        refine g_iconst (by decide) (fun v498 kv498 => ?_)
        exact g_iret ⟨_, rfl, hIH448, hJH448, (e449.symm.trans ek0_2), m450⟩
set_option maxRecDepth 4000 in
set_option maxHeartbeats 4000000 in
/-- M.runsAt -/
theorem s_233 (a1 : Int32) (ha1 : 0 ≤ a1.toInt ∧ a1.toInt ≤ 59) (a2 : Int32) (H : mzH) (hI : gI SM H) (hJ : JN H) : gCall 233 [.ref 0, .int a1, .int a2] H (gRv (fun H' => gI SM H' ∧ JM H' ∧ fZ H' 0 2 = fZ H 0 2 ∧ kpM H H')) := by
  obtain ⟨k0_2, ek0_2⟩ : ∃ z, z = fZ H 0 2 := ⟨_, rfl⟩
  have ik0_2 : k0_2.toInt = (fZ H 0 2).toInt := by rw [← ek0_2]
  have bk0_2 : 0 ≤ k0_2.toInt ∧ k0_2.toInt ≤ 900 := by rw [ek0_2]; exact fZ_of hI sm_0 rfl
  have mkfr : kpM H H := kpM_r
  refine gG_call [(0, .ref 0), (1, .int a1), (2, .int a2)] ⟨rfl, rfl, rfl, trivial⟩ ?_
  show gG 3 zB_233 (mzBlk zB_233 0) [(0, .ref 0), (1, .int a1), (2, .int a2)] [] H 0 0 _
  refine g_aload_n rfl ?_
  refine g_invvv hI sm_0 rfl rfl rfl rfl (s_183 H hI hJ) (fun H89 r90 => ?_)
  obtain ⟨hIH89, hJH89, m91, m92, m93, p94⟩ := r90
  have e95 : k0_2 = fZ H89 0 2 := ek0_2.trans (m91 0 2).symm
  have m96 : kpM H H89 := kpM_t mkfr m93
  refine g_aload_n rfl ?_
  refine g_gfr hIH89 sm_0 rfl ?_
  refine g_iload_n rfl ?_
  refine g_iload_n rfl ?_
  refine g_iastore hIH89 sm_18 (by first | with_reducible assumption | omega) (gz_any _) (fun H97 eH97 hIH97 => ?_)
  have hJH97 : JN H97 := JN_sA (by decide) eH97 hJH89
  have e98 : k0_2 = fZ H97 0 2 := by rw [eH97, fZ_sA]; exact e95
  have m99 : kpM H H97 := kpM_A m96 eH97 (by first | with_reducible assumption | omega)
  refine g_aload_n rfl ?_
  refine g_sipush (by decide) (fun v100 kv100 => ?_)
  refine g_invvv hIH97 sm_0 rfl rfl rfl rfl (s_199 v100 H97 hIH97 hJH97) (fun H101 r102 => ?_)
  obtain ⟨hIH101, hJH101, w103, w104, m105, m106, m107, p108⟩ := r102
  have e109 : k0_2 = fZ H101 0 2 := e98.trans w103.symm
  have m110 : kpM H H101 := kpM_t m99 m107
  exact g_ret ⟨rfl, hIH101, hJH101, (e109.symm.trans ek0_2), m110⟩
set_option maxRecDepth 4000 in
set_option maxHeartbeats 4000000 in
/-- M.ifAt -/
theorem s_234 (a1 : Int32) (a2 : Int32) (a3 : Int32) (H : mzH) (hI : gI SM H) (hJ : JN H) : gCall 234 [.ref 0, .int a1, .int a2, .int a3] H (gRi (fun v H' => gI SM H' ∧ JN H' ∧ fZ H' 0 2 = fZ H 0 2 ∧ kpM H H')) := by
  obtain ⟨k0_2, ek0_2⟩ : ∃ z, z = fZ H 0 2 := ⟨_, rfl⟩
  have ik0_2 : k0_2.toInt = (fZ H 0 2).toInt := by rw [← ek0_2]
  have bk0_2 : 0 ≤ k0_2.toInt ∧ k0_2.toInt ≤ 900 := by rw [ek0_2]; exact fZ_of hI sm_0 rfl
  have mkfr : kpM H H := kpM_r
  refine gG_call [(0, .ref 0), (1, .int a1), (2, .int a2), (3, .int a3)] ⟨rfl, rfl, rfl, rfl, trivial⟩ ?_
  show gG 4 zB_234 (mzBlk zB_234 0) [(0, .ref 0), (1, .int a1), (2, .int a2), (3, .int a3)] [] H 0 0 _
  refine g_aload_n rfl ?_
  refine g_iconst (by decide) (fun v189 kv189 => ?_)
  refine g_pfi hI sm_0 rfl (gz_any _) (fun H190 eH190 hIH190 => ?_)
  have hJH190 : JN H190 := JN_sF eH190 hJ
  have e191 : k0_2 = fZ H190 0 2 := by rw [eH190, fZ_sF_ne (by decide)]; exact ek0_2
  have m192 : kpM H H190 := kpM_F mkfr eH190 (by first | with_reducible assumption | omega)
  refine g_iload_n rfl ?_
  refine g_if_lt (fun c193 => ?_) (fun c193 => ?_)
  · refine g_sipush (by decide) (fun v194 kv194 => ?_)
    exact g_iret ⟨_, rfl, hIH190, hJH190, (e191.symm.trans ek0_2), m192⟩
  · refine g_iload_n rfl ?_
    refine g_aload_n rfl ?_
    refine g_invvi hIH190 sm_0 rfl rfl rfl rfl (s_181 H190 hIH190 hJH190) (fun v197 H195 r196 => ?_)
    obtain ⟨rfl, bv197, p198⟩ := r196
    refine g_if2_ge (fun c199 => ?_) (fun c199 => ?_)
    · refine g_sipush (by decide) (fun v200 kv200 => ?_)
      exact g_iret ⟨_, rfl, hIH190, hJH190, (e191.symm.trans ek0_2), m192⟩
    · refine g_iload_n rfl ?_
      refine g_invti rfl rfl rfl (s_207 a2 H190 hIH190 hJH190) (fun v203 H201 r202 => ?_)
      obtain ⟨rfl, bv203⟩ := r202
      refine g_if_eq (fun c204 => ?_) (fun c204 => ?_)
      · refine g_sipush (by decide) (fun v205 kv205 => ?_)
        exact g_iret ⟨_, rfl, hIH190, hJH190, (e191.symm.trans ek0_2), m192⟩
      · refine g_iload_n rfl ?_
        refine g_iconst (by decide) (fun v206 kv206 => ?_)
        refine g_if2_eq (fun c207 => ?_) (fun c207 => ?_)
        · refine g_aload_n rfl ?_
          refine g_iload_n rfl ?_
          refine g_iload_n rfl ?_
          refine g_invvv hIH190 sm_0 rfl rfl rfl rfl (s_233 a1 (by first | with_reducible assumption | omega) a2 H190 hIH190 hJH190) (fun H208 r209 => ?_)
          obtain ⟨hIH208, hJH208, w210, m211⟩ := r209
          have e212 : k0_2 = fZ H208 0 2 := e191.trans w210.symm
          have m213 : kpM H H208 := kpM_t m192 m211
          refine g_iload_n rfl ?_
          refine g_iconst (by decide) (fun v214 kv214 => ?_)
          refine g_if2_ne (fun c215 => ?_) (fun c215 => ?_)
          · exfalso; omega
          · refine g_aload_n rfl ?_
            refine g_invvi hIH208 sm_0 rfl rfl rfl rfl (s_225 H208 hIH208 (JM_n hJH208)) (fun v218 H216 r217 => ?_)
            obtain rfl := r217
            refine g_goto ?_
            exact g_iret ⟨_, rfl, hIH208, (JM_n hJH208), (e212.symm.trans ek0_2), m213⟩
        · refine g_iload_n rfl ?_
          refine g_invti rfl rfl rfl (s_206 a3 H190 hIH190 hJH190) (fun v221 H219 r220 => ?_)
          obtain ⟨rfl, bv221, p222⟩ := r220
          refine g_if_ne (fun c223 => ?_) (fun c223 => ?_)
          · refine g_aload_n rfl ?_
            refine g_iload_n rfl ?_
            refine g_iload_n rfl ?_
            refine g_invvv hIH190 sm_0 rfl rfl rfl rfl (s_233 a1 (by first | with_reducible assumption | omega) a2 H190 hIH190 hJH190) (fun H224 r225 => ?_)
            obtain ⟨hIH224, hJH224, w226, m227⟩ := r225
            have e228 : k0_2 = fZ H224 0 2 := e191.trans w226.symm
            have m229 : kpM H H224 := kpM_t m192 m227
            refine g_iload_n rfl ?_
            refine g_iconst (by decide) (fun v230 kv230 => ?_)
            refine g_if2_ne (fun c231 => ?_) (fun c231 => ?_)
            · refine g_aload_n rfl ?_
              refine g_iload_n rfl ?_
              refine g_invvi hIH224 sm_0 rfl rfl rfl rfl (s_202 a3 (by first | with_reducible assumption | omega) H224 hIH224 hJH224) (fun v234 H232 r233 => ?_)
              obtain ⟨rfl, bv234⟩ := r233
              refine g_nop ?_
              exact g_iret ⟨_, rfl, hIH224, (JM_n hJH224), (e228.symm.trans ek0_2), m229⟩
            · exfalso; omega
          · refine g_nop ?_
            refine g_sipush (by decide) (fun v235 kv235 => ?_)
            exact g_iret ⟨_, rfl, hIH190, hJH190, (e191.symm.trans ek0_2), m192⟩
set_option maxRecDepth 4000 in
set_option maxHeartbeats 4000000 in
/-- M.window -/
theorem s_235 (a1 : Int32) (a2 : Int32) (H : mzH) (hI : gI SM H) (hJ : JN H) : gCall 235 [.ref 0, .int a1, .int a2] H (gRi (fun v H' => gI SM H' ∧ JN H' ∧ fZ H' 0 2 = fZ H 0 2 ∧ kpM H H')) := by
  obtain ⟨k0_2, ek0_2⟩ : ∃ z, z = fZ H 0 2 := ⟨_, rfl⟩
  have ik0_2 : k0_2.toInt = (fZ H 0 2).toInt := by rw [← ek0_2]
  have bk0_2 : 0 ≤ k0_2.toInt ∧ k0_2.toInt ≤ 900 := by rw [ek0_2]; exact fZ_of hI sm_0 rfl
  have mkfr : kpM H H := kpM_r
  refine gG_call [(0, .ref 0), (1, .int a1), (2, .int a2)] ⟨rfl, rfl, rfl, trivial⟩ ?_
  show gG 7 zB_235 (mzBlk zB_235 0) [(0, .ref 0), (1, .int a1), (2, .int a2)] [] H 0 0 _
  refine g_aload_n rfl ?_
  refine g_iconst (by decide) (fun v731 kv731 => ?_)
  refine g_pfi hI sm_0 rfl (gz_any _) (fun H732 eH732 hIH732 => ?_)
  have hJH732 : JN H732 := JN_sF eH732 hJ
  have e733 : k0_2 = fZ H732 0 2 := by rw [eH732, fZ_sF_ne (by decide)]; exact ek0_2
  have m734 : kpM H H732 := kpM_F mkfr eH732 (by first | with_reducible assumption | omega)
  refine g_iload_n rfl ?_
  refine g_if_lt (fun c735 => ?_) (fun c735 => ?_)
  · refine g_iconst (by decide) (fun v736 kv736 => ?_)
    exact g_iret ⟨_, rfl, hIH732, hJH732, (e733.symm.trans ek0_2), m734⟩
  · refine g_iload_n rfl ?_
    refine g_aload_n rfl ?_
    refine g_invvi hIH732 sm_0 rfl rfl rfl rfl (s_181 H732 hIH732 hJH732) (fun v739 H737 r738 => ?_)
    obtain ⟨rfl, bv739, p740⟩ := r738
    refine g_if2_ge (fun c741 => ?_) (fun c741 => ?_)
    · refine g_iconst (by decide) (fun v742 kv742 => ?_)
      exact g_iret ⟨_, rfl, hIH732, hJH732, (e733.symm.trans ek0_2), m734⟩
    · refine g_iload_n rfl ?_
      refine g_if_lt (fun c743 => ?_) (fun c743 => ?_)
      · refine g_iconst (by decide) (fun v744 kv744 => ?_)
        exact g_iret ⟨_, rfl, hIH732, hJH732, (e733.symm.trans ek0_2), m734⟩
      · refine g_iload_n rfl ?_
        refine g_iconst (by decide) (fun v745 kv745 => ?_)
        refine g_if2_le (fun c746 => ?_) (fun c746 => ?_)
        · refine g_bipush (by decide) (fun v747 kv747 => ?_)
          refine g_istore_n (l' := [(0, .ref 0), (1, .int a1), (2, .int a2), (3, .int v747)]) rfl rfl ?_
          refine g_bipush (by decide) (fun v748 kv748 => ?_)
          refine g_istore (l' := [(0, .ref 0), (1, .int a1), (2, .int a2), (3, .int v747), (4, .int v748)]) rfl rfl ?_
          refine g_iconst (by decide) (fun v749 kv749 => ?_)
          refine g_istore (l' := [(0, .ref 0), (1, .int a1), (2, .int a2), (3, .int v747), (4, .int v748), (5, .int v749)]) rfl rfl ?_
          refine g_iconst (by decide) (fun v750 kv750 => ?_)
          refine g_istore (l' := [(0, .ref 0), (1, .int a1), (2, .int a2), (3, .int v747), (4, .int v748), (5, .int v749), (6, .int v750)]) rfl rfl ?_
          refine g_nop ?_
          have L758 : ∀ (N : Nat) (v751 : Int32) (v752 : Int32) (v753 : Int32) (v754 : Int32) (H755 : mzH), gI SM H755 → JN H755 → k0_2 = fZ H755 0 2 → kpM H H755 → (-2 ≤ v751.toInt ∧ v751.toInt ≤ 999) → (-2 ≤ v752.toInt ∧ v752.toInt ≤ 999) → (0 ≤ v754.toInt ∧ v754.toInt ≤ 1000) → (1000 - v754.toInt).toNat < N → gG 7 zB_235 (mzBlk zB_235 3) [(0, .ref 0), (1, .int a1), (2, .int a2), (3, .int v751), (4, .int v752), (5, .int v753), (6, .int v754)] [] H755 0 0 (gRi (fun v H' => gI SM H' ∧ JN H' ∧ fZ H' 0 2 = fZ H 0 2 ∧ kpM H H')) := by
            intro N
            induction N with
            | zero => intro v751 v752 v753 v754 H755 hIH755 hJH755 e756 m757 bv751 bv752 bv754 hmL758; exact absurd hmL758 (Nat.not_lt_zero _)
            | succ N ihL758 =>
              intro v751 v752 v753 v754 H755 hIH755 hJH755 e756 m757 bv751 bv752 bv754 hmL758
              refine g_iload rfl ?_
              refine g_sipush (by decide) (fun v759 kv759 => ?_)
              refine g_if2_gt (fun c760 => ?_) (fun c760 => ?_)
              · refine g_iload_n rfl ?_
                refine g_if_ne (fun c761 => ?_) (fun c761 => ?_)
                · refine g_iload_n rfl ?_
                  refine g_iconst (by decide) (fun v762 kv762 => ?_)
                  refine g_if2_ne (fun c763 => ?_) (fun c763 => ?_)
                  · refine g_iload rfl ?_
                    refine g_nop ?_
                    exact g_iret ⟨_, rfl, hIH755, hJH755, (e756.symm.trans ek0_2), m757⟩
                  · refine g_iload rfl ?_
                    refine g_goto ?_
                    exact g_iret ⟨_, rfl, hIH755, hJH755, (e756.symm.trans ek0_2), m757⟩
                · refine g_iload_n rfl ?_
                  refine g_goto ?_
                  exact g_iret ⟨_, rfl, hIH755, hJH755, (e756.symm.trans ek0_2), m757⟩
              · refine g_aload_n rfl ?_
                refine g_iload_n rfl ?_
                refine g_iload rfl ?_
                refine g_invvv hIH755 sm_0 rfl rfl rfl rfl (s_233 a1 (by first | with_reducible assumption | omega) v754 H755 hIH755 hJH755) (fun H764 r765 => ?_)
                obtain ⟨hIH764, hJH764, w766, m767⟩ := r765
                have e768 : k0_2 = fZ H764 0 2 := e756.trans w766.symm
                have m769 : kpM H H764 := kpM_t m757 m767
                refine g_aload_n rfl ?_
                refine g_gfr hIH764 sm_0 rfl ?_
                refine g_iload_n rfl ?_
                refine g_iaload hIH764 sm_20 rfl (by first | with_reducible assumption | omega) (fun v770 ev770 lv770 uv770 => ?_)
                refine g_if_eq (fun c771 => ?_) (fun c771 => ?_)
                · refine g_iload rfl ?_
                  refine g_if_ne (fun c772 => ?_) (fun c772 => ?_)
                  · refine g_iload_n rfl ?_
                    refine g_nop ?_
                    refine g_istore_n (l' := [(0, .ref 0), (1, .int a1), (2, .int a2), (3, .int v751), (4, .int v752), (5, .int v753), (6, .int v754)]) rfl rfl ?_
                    refine g_iload rfl ?_
                    refine g_istore (l' := [(0, .ref 0), (1, .int a1), (2, .int a2), (3, .int v751), (4, .int v754), (5, .int v753), (6, .int v754)]) rfl rfl ?_
                    refine g_iinc' (l' := (fun v773 => [(0, .ref 0), (1, .int a1), (2, .int a2), (3, .int v751), (4, .int v754), (5, .int v773), (6, .int v754)])) rfl rfl (fun _ => rfl) (fun v773 => ?_)
                    refine g_nop ?_
                    refine g_iinc (l' := (fun v774 => [(0, .ref 0), (1, .int a1), (2, .int a2), (3, .int v751), (4, .int v754), (5, .int v773), (6, .int v774)])) rfl rfl (by decide) (by first | with_reducible assumption | omega) (fun _ => rfl) (fun v774 ev774 => ?_)
                    refine g_goto ?_
                    exact ihL758 v751 v754 v773 v774 H764 hIH764 (JM_n hJH764) e768 m769 (by first | with_reducible assumption | omega) (by first | with_reducible assumption | omega) (by first | with_reducible assumption | omega) (by first | with_reducible assumption | omega)
                  · refine g_iload rfl ?_
                    refine g_goto ?_
                    refine g_istore_n (l' := [(0, .ref 0), (1, .int a1), (2, .int a2), (3, .int v754), (4, .int v752), (5, .int v753), (6, .int v754)]) rfl rfl ?_
                    refine g_iload rfl ?_
                    refine g_istore (l' := [(0, .ref 0), (1, .int a1), (2, .int a2), (3, .int v754), (4, .int v754), (5, .int v753), (6, .int v754)]) rfl rfl ?_
                    refine g_iinc (l' := (fun v775 => [(0, .ref 0), (1, .int a1), (2, .int a2), (3, .int v754), (4, .int v754), (5, .int v775), (6, .int v754)])) rfl rfl (by decide) (by first | with_reducible assumption | omega) (fun _ => rfl) (fun v775 ev775 => ?_)
                    refine g_nop ?_
                    refine g_iinc (l' := (fun v776 => [(0, .ref 0), (1, .int a1), (2, .int a2), (3, .int v754), (4, .int v754), (5, .int v775), (6, .int v776)])) rfl rfl (by decide) (by first | with_reducible assumption | omega) (fun _ => rfl) (fun v776 ev776 => ?_)
                    refine g_goto ?_
                    exact ihL758 v754 v754 v775 v776 H764 hIH764 (JM_n hJH764) e768 m769 (by first | with_reducible assumption | omega) (by first | with_reducible assumption | omega) (by first | with_reducible assumption | omega) (by first | with_reducible assumption | omega)
                · refine g_goto ?_
                  refine g_iinc (l' := (fun v777 => [(0, .ref 0), (1, .int a1), (2, .int a2), (3, .int v751), (4, .int v752), (5, .int v753), (6, .int v777)])) rfl rfl (by decide) (by first | with_reducible assumption | omega) (fun _ => rfl) (fun v777 ev777 => ?_)
                  refine g_goto ?_
                  exact ihL758 v751 v752 v753 v777 H764 hIH764 (JM_n hJH764) e768 m769 (by first | with_reducible assumption | omega) (by first | with_reducible assumption | omega) (by first | with_reducible assumption | omega) (by first | with_reducible assumption | omega)
          exact L758 _ v747 v748 v749 v750 H732 hIH732 hJH732 e733 m734 (by first | with_reducible assumption | omega) (by first | with_reducible assumption | omega) (by first | with_reducible assumption | omega) (Nat.lt_succ_self _)
        · refine g_nop ?_
          refine g_iconst (by decide) (fun v778 kv778 => ?_)
          exact g_iret ⟨_, rfl, hIH732, hJH732, (e733.symm.trans ek0_2), m734⟩
set_option maxRecDepth 4000 in
set_option maxHeartbeats 4000000 in
/-- M.meets -/
theorem s_236 (H : mzH) (hI : gI SM H) (hJ : JM H) : gCall 236 [.ref 0] H (gRv (fun H' => gI SM H' ∧ JM H' ∧ (∀ a f, fZ H' a f = fZ H a f) ∧ kpM H H')) := by
  have mkF : ∀ a f, fZ H a f = fZ H a f := fun _ _ => rfl
  have mkfr : kpM H H := kpM_r
  refine gG_call [(0, .ref 0)] ⟨rfl, trivial⟩ ?_
  show gG 2 zB_236 (mzBlk zB_236 0) [(0, .ref 0)] [] H 0 0 _
  refine g_iconst (by decide) (fun v589 kv589 => ?_)
  refine g_istore_n (l' := [(0, .ref 0), (1, .int v589)]) rfl rfl ?_
  refine g_nop ?_
  have L594 : ∀ (N : Nat) (v590 : Int32) (H591 : mzH), gI SM H591 → JM H591 → (∀ a f, fZ H591 a f = fZ H a f) → kpM H H591 → (0 ≤ v590.toInt ∧ v590.toInt ≤ 40) → (40 - v590.toInt).toNat < N → gG 2 zB_236 (mzBlk zB_236 1) [(0, .ref 0), (1, .int v590)] [] H591 0 0 (gRv (fun H' => gI SM H' ∧ JM H' ∧ (∀ a f, fZ H' a f = fZ H a f) ∧ kpM H H')) := by
    intro N
    induction N with
    | zero => intro v590 H591 hIH591 hJH591 m592 m593 bv590 hmL594; exact absurd hmL594 (Nat.not_lt_zero _)
    | succ N ihL594 =>
      intro v590 H591 hIH591 hJH591 m592 m593 bv590 hmL594
      refine g_iload_n rfl ?_
      refine g_bipush (by decide) (fun v595 kv595 => ?_)
      refine g_if2_ge (fun c596 => ?_) (fun c596 => ?_)
      · refine g_iconst (by decide) (fun v597 kv597 => ?_)
        refine g_istore_n (l' := [(0, .ref 0), (1, .int v597)]) rfl rfl ?_
        refine g_nop ?_
        have L602 : ∀ (N : Nat) (v598 : Int32) (H599 : mzH), gI SM H599 → JM H599 → (∀ a f, fZ H599 a f = fZ H a f) → kpM H H599 → (0 ≤ v598.toInt ∧ v598.toInt ≤ 40) → (40 - v598.toInt).toNat < N → gG 2 zB_236 (mzBlk zB_236 3) [(0, .ref 0), (1, .int v598)] [] H599 0 0 (gRv (fun H' => gI SM H' ∧ JM H' ∧ (∀ a f, fZ H' a f = fZ H a f) ∧ kpM H H')) := by
          intro N
          induction N with
          | zero => intro v598 H599 hIH599 hJH599 m600 m601 bv598 hmL602; exact absurd hmL602 (Nat.not_lt_zero _)
          | succ N ihL602 =>
            intro v598 H599 hIH599 hJH599 m600 m601 bv598 hmL602
            refine g_iload_n rfl ?_
            refine g_bipush (by decide) (fun v603 kv603 => ?_)
            refine g_if2_ge (fun c604 => ?_) (fun c604 => ?_)
            · refine g_iconst (by decide) (fun v605 kv605 => ?_)
              refine g_istore_n (l' := [(0, .ref 0), (1, .int v605)]) rfl rfl ?_
              refine g_nop ?_
              have L610 : ∀ (N : Nat) (v606 : Int32) (H607 : mzH), gI SM H607 → JM H607 → (∀ a f, fZ H607 a f = fZ H a f) → kpM H H607 → (0 ≤ v606.toInt ∧ v606.toInt ≤ 40) → (40 - v606.toInt).toNat < N → gG 2 zB_236 (mzBlk zB_236 6) [(0, .ref 0), (1, .int v606)] [] H607 0 0 (gRv (fun H' => gI SM H' ∧ JM H' ∧ (∀ a f, fZ H' a f = fZ H a f) ∧ kpM H H')) := by
                intro N
                induction N with
                | zero => intro v606 H607 hIH607 hJH607 m608 m609 bv606 hmL610; exact absurd hmL610 (Nat.not_lt_zero _)
                | succ N ihL610 =>
                  intro v606 H607 hIH607 hJH607 m608 m609 bv606 hmL610
                  refine g_iload_n rfl ?_
                  refine g_bipush (by decide) (fun v611 kv611 => ?_)
                  refine g_if2_ge (fun c612 => ?_) (fun c612 => ?_)
                  · exact g_ret ⟨rfl, hIH607, hJH607, m608, m609⟩
                  · refine g_aload_n rfl ?_
                    refine g_gfr hIH607 sm_0 rfl ?_
                    refine g_iload_n rfl ?_
                    refine g_baload hIH607 sm_7 rfl (by first | with_reducible assumption | omega) (fun v613 ev613 lv613 uv613 => ?_)
                    refine g_if_eq (fun c614 => ?_) (fun c614 => ?_)
                    · refine g_iinc (l' := (fun v615 => [(0, .ref 0), (1, .int v615)])) rfl rfl (by decide) (by first | with_reducible assumption | omega) (fun _ => rfl) (fun v615 ev615 => ?_)
                      refine g_goto ?_
                      exact ihL610 v615 H607 hIH607 hJH607 m608 m609 (by first | with_reducible assumption | omega) (by first | with_reducible assumption | omega)
                    · refine g_aload_n rfl ?_
                      refine g_gfr hIH607 sm_0 rfl ?_
                      refine g_iload_n rfl ?_
                      refine g_baload hIH607 sm_16 rfl (by first | with_reducible assumption | omega) (fun v616 ev616 lv616 uv616 => ?_)
                      refine g_if_ne (fun c617 => ?_) (fun c617 => ?_)
                      · refine g_iinc (l' := (fun v618 => [(0, .ref 0), (1, .int v618)])) rfl rfl (by decide) (by first | with_reducible assumption | omega) (fun _ => rfl) (fun v618 ev618 => ?_)
                        refine g_goto ?_
                        exact ihL610 v618 H607 hIH607 hJH607 m608 m609 (by first | with_reducible assumption | omega) (by first | with_reducible assumption | omega)
                      · refine g_aload_n rfl ?_
                        refine g_gfr hIH607 sm_0 rfl ?_
                        refine g_aload_n rfl ?_
                        refine g_iload_n rfl ?_
                        refine g_invvi hIH607 sm_0 rfl rfl rfl rfl (s_186 v606 (by first | with_reducible assumption | omega) H607 hIH607 hJH607) (fun v621 H619 r620 => ?_)
                        obtain ⟨rfl, bv621⟩ := r620
                        refine g_baload hIH607 sm_21 rfl (by first | with_reducible assumption | omega) (fun v622 ev622 lv622 uv622 => ?_)
                        refine g_if_eq (fun c623 => ?_) (fun c623 => ?_)
                        · refine g_iinc (l' := (fun v624 => [(0, .ref 0), (1, .int v624)])) rfl rfl (by decide) (by first | with_reducible assumption | omega) (fun _ => rfl) (fun v624 ev624 => ?_)
                          refine g_goto ?_
                          exact ihL610 v624 H607 hIH607 hJH607 m608 m609 (by first | with_reducible assumption | omega) (by first | with_reducible assumption | omega)
                        · refine g_aload_n rfl ?_
                          refine g_gfr hIH607 sm_0 rfl ?_
                          refine g_iload_n rfl ?_
                          refine g_iconst (by decide) (fun v625 kv625 => ?_)
                          refine g_zastore hIH607 sm_25 (by first | with_reducible assumption | omega) (by first | with_reducible assumption | omega) (fun H626 eH626 hIH626 => ?_)
                          have hJH626 : JM H626 := JM_sA (by decide) eH626 hJH607
                          have m627 : ∀ a f, fZ H626 a f = fZ H a f := fun a f => (by rw [eH626, fZ_sA] : fZ H626 a f = fZ H607 a f).trans (m608 a f)
                          have m628 : kpM H H626 := kpM_A m609 eH626 (by first | with_reducible assumption | omega)
                          refine g_nop ?_
                          refine g_iinc (l' := (fun v629 => [(0, .ref 0), (1, .int v629)])) rfl rfl (by decide) (by first | with_reducible assumption | omega) (fun _ => rfl) (fun v629 ev629 => ?_)
                          refine g_goto ?_
                          exact ihL610 v629 H626 hIH626 hJH626 m627 m628 (by first | with_reducible assumption | omega) (by first | with_reducible assumption | omega)
              exact L610 _ v605 H599 hIH599 hJH599 m600 m601 (by first | with_reducible assumption | omega) (Nat.lt_succ_self _)
            · refine g_aload_n rfl ?_
              refine g_gfr hIH599 sm_0 rfl ?_
              refine g_iload_n rfl ?_
              refine g_baload hIH599 sm_25 rfl (by first | with_reducible assumption | omega) (fun v630 ev630 lv630 uv630 => ?_)
              refine g_if_eq (fun c631 => ?_) (fun c631 => ?_)
              · refine g_iinc (l' := (fun v632 => [(0, .ref 0), (1, .int v632)])) rfl rfl (by decide) (by first | with_reducible assumption | omega) (fun _ => rfl) (fun v632 ev632 => ?_)
                refine g_goto ?_
                exact ihL602 v632 H599 hIH599 hJH599 m600 m601 (by first | with_reducible assumption | omega) (by first | with_reducible assumption | omega)
              · refine g_aload_n rfl ?_
                refine g_gfr hIH599 sm_0 rfl ?_
                refine g_iload_n rfl ?_
                refine g_baload hIH599 sm_7 rfl (by first | with_reducible assumption | omega) (fun v633 ev633 lv633 uv633 => ?_)
                refine g_if_eq (fun c634 => ?_) (fun c634 => ?_)
                · refine g_iinc (l' := (fun v635 => [(0, .ref 0), (1, .int v635)])) rfl rfl (by decide) (by first | with_reducible assumption | omega) (fun _ => rfl) (fun v635 ev635 => ?_)
                  refine g_goto ?_
                  exact ihL602 v635 H599 hIH599 hJH599 m600 m601 (by first | with_reducible assumption | omega) (by first | with_reducible assumption | omega)
                · refine g_aload_n rfl ?_
                  refine g_gfr hIH599 sm_0 rfl ?_
                  refine g_iload_n rfl ?_
                  refine g_baload hIH599 sm_16 rfl (by first | with_reducible assumption | omega) (fun v636 ev636 lv636 uv636 => ?_)
                  refine g_if_ne (fun c637 => ?_) (fun c637 => ?_)
                  · refine g_iinc (l' := (fun v638 => [(0, .ref 0), (1, .int v638)])) rfl rfl (by decide) (by first | with_reducible assumption | omega) (fun _ => rfl) (fun v638 ev638 => ?_)
                    refine g_goto ?_
                    exact ihL602 v638 H599 hIH599 hJH599 m600 m601 (by first | with_reducible assumption | omega) (by first | with_reducible assumption | omega)
                  · refine g_aload_n rfl ?_
                    refine g_gfr hIH599 sm_0 rfl ?_
                    refine g_aload_n rfl ?_
                    refine g_iload_n rfl ?_
                    refine g_invvi hIH599 sm_0 rfl rfl rfl rfl (s_186 v598 (by first | with_reducible assumption | omega) H599 hIH599 hJH599) (fun v641 H639 r640 => ?_)
                    obtain ⟨rfl, bv641⟩ := r640
                    refine g_iconst (by decide) (fun v642 kv642 => ?_)
                    refine g_zastore hIH599 sm_21 (by first | with_reducible assumption | omega) (by first | with_reducible assumption | omega) (fun H643 eH643 hIH643 => ?_)
                    have hJH643 : JM H643 := JM_sA (by decide) eH643 hJH599
                    have m644 : ∀ a f, fZ H643 a f = fZ H a f := fun a f => (by rw [eH643, fZ_sA] : fZ H643 a f = fZ H599 a f).trans (m600 a f)
                    have m645 : kpM H H643 := kpM_A m601 eH643 (by first | with_reducible assumption | omega)
                    refine g_nop ?_
                    refine g_iinc (l' := (fun v646 => [(0, .ref 0), (1, .int v646)])) rfl rfl (by decide) (by first | with_reducible assumption | omega) (fun _ => rfl) (fun v646 ev646 => ?_)
                    refine g_goto ?_
                    exact ihL602 v646 H643 hIH643 hJH643 m644 m645 (by first | with_reducible assumption | omega) (by first | with_reducible assumption | omega)
        exact L602 _ v597 H591 hIH591 hJH591 m592 m593 (by first | with_reducible assumption | omega) (Nat.lt_succ_self _)
      · refine g_aload_n rfl ?_
        refine g_gfr hIH591 sm_0 rfl ?_
        refine g_iload_n rfl ?_
        refine g_iconst (by decide) (fun v647 kv647 => ?_)
        refine g_zastore hIH591 sm_21 (by first | with_reducible assumption | omega) (by first | with_reducible assumption | omega) (fun H648 eH648 hIH648 => ?_)
        have hJH648 : JM H648 := JM_sA (by decide) eH648 hJH591
        have m649 : ∀ a f, fZ H648 a f = fZ H a f := fun a f => (by rw [eH648, fZ_sA] : fZ H648 a f = fZ H591 a f).trans (m592 a f)
        have m650 : kpM H H648 := kpM_A m593 eH648 (by first | with_reducible assumption | omega)
        refine g_iinc (l' := (fun v651 => [(0, .ref 0), (1, .int v651)])) rfl rfl (by decide) (by first | with_reducible assumption | omega) (fun _ => rfl) (fun v651 ev651 => ?_)
        refine g_goto ?_
        exact ihL594 v651 H648 hIH648 hJH648 m649 m650 (by first | with_reducible assumption | omega) (by first | with_reducible assumption | omega)
  exact L594 _ v589 H hI hJ mkF mkfr (by first | with_reducible assumption | omega) (Nat.lt_succ_self _)
set_option maxRecDepth 4000 in
set_option maxHeartbeats 4000000 in
/-- M.pick -/
theorem s_237 (a1 : Int32) (H : mzH) (hI : gI SM H) (hJ : JN H) : gCall 237 [.ref 25, .int a1] H (gRi (fun v H' => H = H')) := by
  refine gG_call [(0, .ref 25), (1, .int a1)] ⟨rfl, rfl, trivial⟩ ?_
  show gG 4 zB_237 (mzBlk zB_237 0) [(0, .ref 25), (1, .int a1)] [] H 0 0 _
  refine g_iload_n rfl ?_
  refine g_istore_n (l' := [(0, .ref 25), (1, .int a1), (2, .int a1)]) rfl rfl ?_
  refine g_iconst (by decide) (fun v141 kv141 => ?_)
  refine g_istore_n (l' := [(0, .ref 25), (1, .int a1), (2, .int a1), (3, .int v141)]) rfl rfl ?_
  refine g_nop ?_
  have L144 : ∀ (N : Nat) (v142 : Int32) (v143 : Int32), (0 ≤ v143.toInt ∧ v143.toInt ≤ 40) → (40 - v143.toInt).toNat < N → gG 4 zB_237 (mzBlk zB_237 1) [(0, .ref 25), (1, .int a1), (2, .int v142), (3, .int v143)] [] H 0 0 (gRi (fun v H' => H = H')) := by
    intro N
    induction N with
    | zero => intro v142 v143 bv143 hmL144; exact absurd hmL144 (Nat.not_lt_zero _)
    | succ N ihL144 =>
      intro v142 v143 bv143 hmL144
      refine g_iload_n rfl ?_
      refine g_bipush (by decide) (fun v145 kv145 => ?_)
      refine g_if2_ge (fun c146 => ?_) (fun c146 => ?_)
      · refine g_bipush (by decide) (fun v147 kv147 => ?_)
        exact g_iret ⟨_, rfl, rfl⟩
      · refine g_aload_n rfl ?_
        refine g_iload_n rfl ?_
        refine g_baload hI sm_25 rfl (by first | with_reducible assumption | omega) (fun v148 ev148 lv148 uv148 => ?_)
        refine g_if_ne (fun c149 => ?_) (fun c149 => ?_)
        · refine g_iload_n rfl ?_
          refine g_if_ne (fun c150 => ?_) (fun c150 => ?_)
          · refine g_iinc' (l' := (fun v151 => [(0, .ref 25), (1, .int a1), (2, .int v151), (3, .int v143)])) rfl rfl (fun _ => rfl) (fun v151 => ?_)
            refine g_nop ?_
            refine g_iinc (l' := (fun v152 => [(0, .ref 25), (1, .int a1), (2, .int v151), (3, .int v152)])) rfl rfl (by decide) (by first | with_reducible assumption | omega) (fun _ => rfl) (fun v152 ev152 => ?_)
            refine g_goto ?_
            exact ihL144 v151 v152 (by first | with_reducible assumption | omega) (by first | with_reducible assumption | omega)
          · refine g_iload_n rfl ?_
            exact g_iret ⟨_, rfl, rfl⟩
        · refine g_goto ?_
          refine g_iinc (l' := (fun v153 => [(0, .ref 25), (1, .int a1), (2, .int v142), (3, .int v153)])) rfl rfl (by decide) (by first | with_reducible assumption | omega) (fun _ => rfl) (fun v153 ev153 => ?_)
          refine g_goto ?_
          exact ihL144 v142 v153 (by first | with_reducible assumption | omega) (by first | with_reducible assumption | omega)
  exact L144 _ a1 v141 (by first | with_reducible assumption | omega) (Nat.lt_succ_self _)
set_option maxRecDepth 4000 in
set_option maxHeartbeats 4000000 in
/-- M.met -/
theorem s_238 (a1 : Int32) (a2 : Int32) (a3 : Int32) (H : mzH) (hI : gI SM H) (hJ : JN H) : gCall 238 [.ref 0, .int a1, .int a2, .int a3] H (gRi (fun v H' => gI SM H' ∧ JN H' ∧ fZ H' 0 2 = fZ H 0 2 ∧ kpM H H')) := by
  obtain ⟨k0_2, ek0_2⟩ : ∃ z, z = fZ H 0 2 := ⟨_, rfl⟩
  have ik0_2 : k0_2.toInt = (fZ H 0 2).toInt := by rw [← ek0_2]
  have bk0_2 : 0 ≤ k0_2.toInt ∧ k0_2.toInt ≤ 900 := by rw [ek0_2]; exact fZ_of hI sm_0 rfl
  have mkfr : kpM H H := kpM_r
  refine gG_call [(0, .ref 0), (1, .int a1), (2, .int a2), (3, .int a3)] ⟨rfl, rfl, rfl, rfl, trivial⟩ ?_
  show gG 5 zB_238 (mzBlk zB_238 0) [(0, .ref 0), (1, .int a1), (2, .int a2), (3, .int a3)] [] H 0 0 _
  refine g_aload_n rfl ?_
  refine g_iconst (by decide) (fun v703 kv703 => ?_)
  refine g_pfi hI sm_0 rfl (gz_any _) (fun H704 eH704 hIH704 => ?_)
  have hJH704 : JN H704 := JN_sF eH704 hJ
  have e705 : k0_2 = fZ H704 0 2 := by rw [eH704, fZ_sF_ne (by decide)]; exact ek0_2
  have m706 : kpM H H704 := kpM_F mkfr eH704 (by first | with_reducible assumption | omega)
  refine g_iload_n rfl ?_
  refine g_invti rfl rfl rfl (s_206 a1 H704 hIH704 hJH704) (fun v709 H707 r708 => ?_)
  obtain ⟨rfl, bv709, p710⟩ := r708
  refine g_if_eq (fun c711 => ?_) (fun c711 => ?_)
  · refine g_iconst (by decide) (fun v712 kv712 => ?_)
    exact g_iret ⟨_, rfl, hIH704, hJH704, (e705.symm.trans ek0_2), m706⟩
  · refine g_iload_n rfl ?_
    refine g_invti rfl rfl rfl (s_207 a2 H704 hIH704 hJH704) (fun v715 H713 r714 => ?_)
    obtain ⟨rfl, bv715⟩ := r714
    refine g_if_eq (fun c716 => ?_) (fun c716 => ?_)
    · refine g_iconst (by decide) (fun v717 kv717 => ?_)
      exact g_iret ⟨_, rfl, hIH704, hJH704, (e705.symm.trans ek0_2), m706⟩
    · refine g_iload_n rfl ?_
      refine g_if_ge (fun c718 => ?_) (fun c718 => ?_)
      · refine g_aload_n rfl ?_
        refine g_iload_n rfl ?_
        refine g_invvv hIH704 sm_0 rfl rfl rfl rfl (s_201 a2 H704 hIH704 hJH704) (fun H719 r720 => ?_)
        obtain ⟨hIH719, hJH719, w721, m722⟩ := r720
        have e723 : k0_2 = fZ H719 0 2 := e705.trans w721.symm
        have m724 : kpM H H719 := kpM_t m706 m722
        refine g_aload_n rfl ?_
        refine g_gfr hIH719 sm_0 rfl ?_
        refine g_iload_n rfl ?_
        refine g_baload hIH719 sm_7 rfl (by first | with_reducible assumption | omega) (fun v725 ev725 lv725 uv725 => ?_)
        refine g_if_eq (fun c726 => ?_) (fun c726 => ?_)
        · refine g_bipush (by decide) (fun v727 kv727 => ?_)
          exact g_iret ⟨_, rfl, hIH719, (JM_n hJH719), (e723.symm.trans ek0_2), m724⟩
        · refine g_aload_n rfl ?_
          refine g_gfr hIH719 sm_0 rfl ?_
          refine g_iload_n rfl ?_
          refine g_baload hIH719 sm_16 rfl (by first | with_reducible assumption | omega) (fun v728 ev728 lv728 uv728 => ?_)
          refine g_if_eq (fun c729 => ?_) (fun c729 => ?_)
          · refine g_iconst (by decide) (fun v730 kv730 => ?_)
            refine g_istore (l' := [(0, .ref 0), (1, .int a1), (2, .int a2), (3, .int a3), (4, .int v730)]) rfl rfl ?_
            refine g_nop ?_
            have L735 : ∀ (N : Nat) (v731 : Int32) (H732 : mzH), gI SM H732 → JM H732 → k0_2 = fZ H732 0 2 → kpM H H732 → (0 ≤ v731.toInt ∧ v731.toInt ≤ 40) → (40 - v731.toInt).toNat < N → gG 5 zB_238 (mzBlk zB_238 5) [(0, .ref 0), (1, .int a1), (2, .int a2), (3, .int a3), (4, .int v731)] [] H732 0 0 (gRi (fun v H' => gI SM H' ∧ JN H' ∧ fZ H' 0 2 = fZ H 0 2 ∧ kpM H H')) := by
              intro N
              induction N with
              | zero => intro v731 H732 hIH732 hJH732 e733 m734 bv731 hmL735; exact absurd hmL735 (Nat.not_lt_zero _)
              | succ N ihL735 =>
                intro v731 H732 hIH732 hJH732 e733 m734 bv731 hmL735
                refine g_iload rfl ?_
                refine g_bipush (by decide) (fun v736 kv736 => ?_)
                refine g_if2_ge (fun c737 => ?_) (fun c737 => ?_)
                · refine g_aload_n rfl ?_
                  refine g_invvv hIH732 sm_0 rfl rfl rfl rfl (s_236 H732 hIH732 hJH732) (fun H738 r739 => ?_)
                  obtain ⟨hIH738, hJH738, m740, m741⟩ := r739
                  have e742 : k0_2 = fZ H738 0 2 := e733.trans (m740 0 2).symm
                  have m743 : kpM H H738 := kpM_t m734 m741
                  refine g_iconst (by decide) (fun v744 kv744 => ?_)
                  refine g_istore (l' := [(0, .ref 0), (1, .int a1), (2, .int a2), (3, .int a3), (4, .int v744)]) rfl rfl ?_
                  refine g_nop ?_
                  have L749 : ∀ (N : Nat) (v745 : Int32) (H746 : mzH), gI SM H746 → JM H746 → k0_2 = fZ H746 0 2 → kpM H H746 → (0 ≤ v745.toInt ∧ v745.toInt ≤ 60) → (60 - v745.toInt).toNat < N → gG 5 zB_238 (mzBlk zB_238 9) [(0, .ref 0), (1, .int a1), (2, .int a2), (3, .int a3), (4, .int v745)] [] H746 0 0 (gRi (fun v H' => gI SM H' ∧ JN H' ∧ fZ H' 0 2 = fZ H 0 2 ∧ kpM H H')) := by
                    intro N
                    induction N with
                    | zero => intro v745 H746 hIH746 hJH746 e747 m748 bv745 hmL749; exact absurd hmL749 (Nat.not_lt_zero _)
                    | succ N ihL749 =>
                      intro v745 H746 hIH746 hJH746 e747 m748 bv745 hmL749
                      refine g_iload rfl ?_
                      refine g_aload_n rfl ?_
                      refine g_gfi hIH746 sm_0 rfl (fun v750 ev750 lv750 uv750 => ?_)
                      refine g_if2_ge (fun c751 => ?_) (fun c751 => ?_)
                      · refine g_aload_n rfl ?_
                        refine g_gfr hIH746 sm_0 rfl ?_
                        refine g_iload_n rfl ?_
                        refine g_invti rfl rfl rfl (s_237 a3 H746 hIH746 (JM_n hJH746)) (fun v754 H752 r753 => ?_)
                        obtain rfl := r753
                        exact g_iret ⟨_, rfl, hIH746, (JM_n hJH746), (e747.symm.trans ek0_2), m748⟩
                      · refine g_aload_n rfl ?_
                        refine g_gfr hIH746 sm_0 rfl ?_
                        refine g_aload_n rfl ?_
                        refine g_gfr hIH746 sm_0 rfl ?_
                        refine g_iload rfl ?_
                        refine g_iaload hIH746 sm_19 rfl (by first | with_reducible assumption | omega) (fun v755 ev755 lv755 uv755 => ?_)
                        refine g_iaload hIH746 sm_18 rfl (by first | with_reducible assumption | omega) (fun v756 ev756 lv756 uv756 => ?_)
                        refine g_iload_n rfl ?_
                        refine g_if2_gt (fun c757 => ?_) (fun c757 => ?_)
                        · refine g_aload_n rfl ?_
                          refine g_aload_n rfl ?_
                          refine g_gfr hIH746 sm_0 rfl ?_
                          refine g_iload rfl ?_
                          refine g_ialoadk hIH746 sm_19 rfl (by first | with_reducible assumption | omega) ev755 ?_
                          refine g_invvv hIH746 sm_0 rfl rfl rfl rfl (s_193 v755 (by first | with_reducible assumption | omega) H746 hIH746 hJH746) (fun H758 r759 => ?_)
                          obtain ⟨hIH758, hJH758, m760, m761, m762, m763, m764⟩ := r759
                          have e765 : k0_2 = fZ H758 0 2 := e747.trans (m760 0 2).symm
                          have m766 : kpM H H758 := kpM_t m748 m764
                          refine g_aload_n rfl ?_
                          refine g_invvv hIH758 sm_0 rfl rfl rfl rfl (s_236 H758 hIH758 hJH758) (fun H767 r768 => ?_)
                          obtain ⟨hIH767, hJH767, m769, m770⟩ := r768
                          have e771 : k0_2 = fZ H767 0 2 := e765.trans (m769 0 2).symm
                          have m772 : kpM H H767 := kpM_t m766 m770
                          refine g_nop ?_
                          refine g_iinc (l' := (fun v773 => [(0, .ref 0), (1, .int a1), (2, .int a2), (3, .int a3), (4, .int v773)])) rfl rfl (by decide) (by first | with_reducible assumption | omega) (fun _ => rfl) (fun v773 ev773 => ?_)
                          refine g_goto ?_
                          exact ihL749 v773 H767 hIH767 hJH767 e771 m772 (by first | with_reducible assumption | omega) (by first | with_reducible assumption | omega)
                        · refine g_goto ?_
                          refine g_iinc (l' := (fun v774 => [(0, .ref 0), (1, .int a1), (2, .int a2), (3, .int a3), (4, .int v774)])) rfl rfl (by decide) (by first | with_reducible assumption | omega) (fun _ => rfl) (fun v774 ev774 => ?_)
                          refine g_goto ?_
                          exact ihL749 v774 H746 hIH746 hJH746 e747 m748 (by first | with_reducible assumption | omega) (by first | with_reducible assumption | omega)
                  exact L749 _ v744 H738 hIH738 hJH738 e742 m743 (by first | with_reducible assumption | omega) (Nat.lt_succ_self _)
                · refine g_aload_n rfl ?_
                  refine g_gfr hIH732 sm_0 rfl ?_
                  refine g_iload rfl ?_
                  refine g_iload rfl ?_
                  refine g_iload_n rfl ?_
                  refine g_if2_ne (fun c775 => ?_) (fun c775 => ?_)
                  · refine g_iconst (by decide) (fun v776 kv776 => ?_)
                    refine g_nop ?_
                    refine g_zastore hIH732 sm_25 (by first | with_reducible assumption | omega) (by first | with_reducible assumption | omega) (fun H777 eH777 hIH777 => ?_)
                    have hJH777 : JM H777 := JM_sA (by decide) eH777 hJH732
                    have e778 : k0_2 = fZ H777 0 2 := by rw [eH777, fZ_sA]; exact e733
                    have m779 : kpM H H777 := kpM_A m734 eH777 (by first | with_reducible assumption | omega)
                    refine g_iinc (l' := (fun v780 => [(0, .ref 0), (1, .int a1), (2, .int a2), (3, .int a3), (4, .int v780)])) rfl rfl (by decide) (by first | with_reducible assumption | omega) (fun _ => rfl) (fun v780 ev780 => ?_)
                    refine g_goto ?_
                    exact ihL735 v780 H777 hIH777 hJH777 e778 m779 (by first | with_reducible assumption | omega) (by first | with_reducible assumption | omega)
                  · refine g_iconst (by decide) (fun v781 kv781 => ?_)
                    refine g_goto ?_
                    refine g_zastore hIH732 sm_25 (by first | with_reducible assumption | omega) (by first | with_reducible assumption | omega) (fun H782 eH782 hIH782 => ?_)
                    have hJH782 : JM H782 := JM_sA (by decide) eH782 hJH732
                    have e783 : k0_2 = fZ H782 0 2 := by rw [eH782, fZ_sA]; exact e733
                    have m784 : kpM H H782 := kpM_A m734 eH782 (by first | with_reducible assumption | omega)
                    refine g_iinc (l' := (fun v785 => [(0, .ref 0), (1, .int a1), (2, .int a2), (3, .int a3), (4, .int v785)])) rfl rfl (by decide) (by first | with_reducible assumption | omega) (fun _ => rfl) (fun v785 ev785 => ?_)
                    refine g_goto ?_
                    exact ihL735 v785 H782 hIH782 hJH782 e783 m784 (by first | with_reducible assumption | omega) (by first | with_reducible assumption | omega)
            exact L735 _ v730 H719 hIH719 hJH719 e723 m724 (by first | with_reducible assumption | omega) (Nat.lt_succ_self _)
          · refine g_nop ?_
            refine g_bipush (by decide) (fun v786 kv786 => ?_)
            exact g_iret ⟨_, rfl, hIH719, (JM_n hJH719), (e723.symm.trans ek0_2), m724⟩
      · refine g_nop ?_
        refine g_iconst (by decide) (fun v787 kv787 => ?_)
        exact g_iret ⟨_, rfl, hIH704, hJH704, (e705.symm.trans ek0_2), m706⟩
set_option maxRecDepth 4000 in
set_option maxHeartbeats 4000000 in
/-- M.adds -/
theorem s_239 (a1 : Int32) (H : mzH) (hI : gI SM H) (hJ : JM H) : gCall 239 [.ref 0, .int a1] H (gRv (fun H' => gI SM H' ∧ JM H' ∧ (∀ a f, fZ H' a f = fZ H a f) ∧ kpM H H')) := by
  have mkF : ∀ a f, fZ H a f = fZ H a f := fun _ _ => rfl
  have mkfr : kpM H H := kpM_r
  refine gG_call [(0, .ref 0), (1, .int a1)] ⟨rfl, rfl, trivial⟩ ?_
  show gG 3 zB_239 (mzBlk zB_239 0) [(0, .ref 0), (1, .int a1)] [] H 0 0 _
  refine g_iconst (by decide) (fun v305 kv305 => ?_)
  refine g_istore_n (l' := [(0, .ref 0), (1, .int a1), (2, .int v305)]) rfl rfl ?_
  refine g_nop ?_
  have L310 : ∀ (N : Nat) (v306 : Int32) (H307 : mzH), gI SM H307 → JM H307 → (∀ a f, fZ H307 a f = fZ H a f) → kpM H H307 → (0 ≤ v306.toInt ∧ v306.toInt ≤ 40) → (40 - v306.toInt).toNat < N → gG 3 zB_239 (mzBlk zB_239 1) [(0, .ref 0), (1, .int a1), (2, .int v306)] [] H307 0 0 (gRv (fun H' => gI SM H' ∧ JM H' ∧ (∀ a f, fZ H' a f = fZ H a f) ∧ kpM H H')) := by
    intro N
    induction N with
    | zero => intro v306 H307 hIH307 hJH307 m308 m309 bv306 hmL310; exact absurd hmL310 (Nat.not_lt_zero _)
    | succ N ihL310 =>
      intro v306 H307 hIH307 hJH307 m308 m309 bv306 hmL310
      refine g_iload_n rfl ?_
      refine g_bipush (by decide) (fun v311 kv311 => ?_)
      refine g_if2_ge (fun c312 => ?_) (fun c312 => ?_)
      · exact g_ret ⟨rfl, hIH307, hJH307, m308, m309⟩
      · refine g_aload_n rfl ?_
        refine g_gfr hIH307 sm_0 rfl ?_
        refine g_iload_n rfl ?_
        refine g_aload_n rfl ?_
        refine g_gfr hIH307 sm_0 rfl ?_
        refine g_iload_n rfl ?_
        refine g_baload hIH307 sm_25 rfl (by first | with_reducible assumption | omega) (fun v313 ev313 lv313 uv313 => ?_)
        refine g_if_ne (fun c314 => ?_) (fun c314 => ?_)
        · refine g_iconst (by decide) (fun v315 kv315 => ?_)
          refine g_goto ?_
          refine g_zastore hIH307 sm_25 (by first | with_reducible assumption | omega) (by first | with_reducible assumption | omega) (fun H316 eH316 hIH316 => ?_)
          have hJH316 : JM H316 := JM_sA (by decide) eH316 hJH307
          have m317 : ∀ a f, fZ H316 a f = fZ H a f := fun a f => (by rw [eH316, fZ_sA] : fZ H316 a f = fZ H307 a f).trans (m308 a f)
          have m318 : kpM H H316 := kpM_A m309 eH316 (by first | with_reducible assumption | omega)
          refine g_iinc (l' := (fun v319 => [(0, .ref 0), (1, .int a1), (2, .int v319)])) rfl rfl (by decide) (by first | with_reducible assumption | omega) (fun _ => rfl) (fun v319 ev319 => ?_)
          refine g_goto ?_
          exact ihL310 v319 H316 hIH316 hJH316 m317 m318 (by first | with_reducible assumption | omega) (by first | with_reducible assumption | omega)
        · refine g_aload_n rfl ?_
          refine g_iload_n rfl ?_
          refine g_iload_n rfl ?_
          refine g_invvi hIH307 sm_0 rfl rfl rfl rfl (s_187 v306 (by first | with_reducible assumption | omega) a1 H307 hIH307 hJH307) (fun v322 H320 r321 => ?_)
          obtain ⟨rfl, bv322⟩ := r321
          refine g_if_eq (fun c323 => ?_) (fun c323 => ?_)
          · refine g_iconst (by decide) (fun v324 kv324 => ?_)
            refine g_nop ?_
            refine g_zastore hIH307 sm_25 (by first | with_reducible assumption | omega) (by first | with_reducible assumption | omega) (fun H325 eH325 hIH325 => ?_)
            have hJH325 : JM H325 := JM_sA (by decide) eH325 hJH307
            have m326 : ∀ a f, fZ H325 a f = fZ H a f := fun a f => (by rw [eH325, fZ_sA] : fZ H325 a f = fZ H307 a f).trans (m308 a f)
            have m327 : kpM H H325 := kpM_A m309 eH325 (by first | with_reducible assumption | omega)
            refine g_iinc (l' := (fun v328 => [(0, .ref 0), (1, .int a1), (2, .int v328)])) rfl rfl (by decide) (by first | with_reducible assumption | omega) (fun _ => rfl) (fun v328 ev328 => ?_)
            refine g_goto ?_
            exact ihL310 v328 H325 hIH325 hJH325 m326 m327 (by first | with_reducible assumption | omega) (by first | with_reducible assumption | omega)
          · refine g_nop ?_
            refine g_iconst (by decide) (fun v329 kv329 => ?_)
            refine g_goto ?_
            refine g_zastore hIH307 sm_25 (by first | with_reducible assumption | omega) (by first | with_reducible assumption | omega) (fun H330 eH330 hIH330 => ?_)
            have hJH330 : JM H330 := JM_sA (by decide) eH330 hJH307
            have m331 : ∀ a f, fZ H330 a f = fZ H a f := fun a f => (by rw [eH330, fZ_sA] : fZ H330 a f = fZ H307 a f).trans (m308 a f)
            have m332 : kpM H H330 := kpM_A m309 eH330 (by first | with_reducible assumption | omega)
            refine g_iinc (l' := (fun v333 => [(0, .ref 0), (1, .int a1), (2, .int v333)])) rfl rfl (by decide) (by first | with_reducible assumption | omega) (fun _ => rfl) (fun v333 ev333 => ?_)
            refine g_goto ?_
            exact ihL310 v333 H330 hIH330 hJH330 m331 m332 (by first | with_reducible assumption | omega) (by first | with_reducible assumption | omega)
  exact L310 _ v305 H hI hJ mkF mkfr (by first | with_reducible assumption | omega) (Nat.lt_succ_self _)
set_option maxRecDepth 4000 in
set_option maxHeartbeats 4000000 in
/-- M.wereIn -/
theorem s_240 (a1 : Int32) (a2 : Int32) (a3 : Int32) (a4 : Int32) (H : mzH) (hI : gI SM H) (hJ : JN H) : gCall 240 [.ref 0, .int a1, .int a2, .int a3, .int a4] H (gRi (fun v H' => gI SM H' ∧ JN H' ∧ fZ H' 0 2 = fZ H 0 2 ∧ kpM H H')) := by
  obtain ⟨k0_2, ek0_2⟩ : ∃ z, z = fZ H 0 2 := ⟨_, rfl⟩
  have ik0_2 : k0_2.toInt = (fZ H 0 2).toInt := by rw [← ek0_2]
  have bk0_2 : 0 ≤ k0_2.toInt ∧ k0_2.toInt ≤ 900 := by rw [ek0_2]; exact fZ_of hI sm_0 rfl
  have mkfr : kpM H H := kpM_r
  refine gG_call [(0, .ref 0), (1, .int a1), (2, .int a2), (3, .int a3), (4, .int a4)] ⟨rfl, rfl, rfl, rfl, rfl, trivial⟩ ?_
  show gG 7 zB_240 (mzBlk zB_240 0) [(0, .ref 0), (1, .int a1), (2, .int a2), (3, .int a3), (4, .int a4)] [] H 0 0 _
  refine g_aload_n rfl ?_
  refine g_iconst (by decide) (fun v701 kv701 => ?_)
  refine g_pfi hI sm_0 rfl (gz_any _) (fun H702 eH702 hIH702 => ?_)
  have hJH702 : JN H702 := JN_sF eH702 hJ
  have e703 : k0_2 = fZ H702 0 2 := by rw [eH702, fZ_sF_ne (by decide)]; exact ek0_2
  have m704 : kpM H H702 := kpM_F mkfr eH702 (by first | with_reducible assumption | omega)
  refine g_iload_n rfl ?_
  refine g_invti rfl rfl rfl (s_206 a1 H702 hIH702 hJH702) (fun v707 H705 r706 => ?_)
  obtain ⟨rfl, bv707, p708⟩ := r706
  refine g_if_eq (fun c709 => ?_) (fun c709 => ?_)
  · refine g_iconst (by decide) (fun v710 kv710 => ?_)
    exact g_iret ⟨_, rfl, hIH702, hJH702, (e703.symm.trans ek0_2), m704⟩
  · refine g_iload_n rfl ?_
    refine g_invti rfl rfl rfl (s_207 a2 H702 hIH702 hJH702) (fun v713 H711 r712 => ?_)
    obtain ⟨rfl, bv713⟩ := r712
    refine g_if_eq (fun c714 => ?_) (fun c714 => ?_)
    · refine g_iconst (by decide) (fun v715 kv715 => ?_)
      exact g_iret ⟨_, rfl, hIH702, hJH702, (e703.symm.trans ek0_2), m704⟩
    · refine g_iload_n rfl ?_
      refine g_invti rfl rfl rfl (s_207 a3 H702 hIH702 hJH702) (fun v718 H716 r717 => ?_)
      obtain ⟨rfl, bv718⟩ := r717
      refine g_if_eq (fun c719 => ?_) (fun c719 => ?_)
      · refine g_iconst (by decide) (fun v720 kv720 => ?_)
        exact g_iret ⟨_, rfl, hIH702, hJH702, (e703.symm.trans ek0_2), m704⟩
      · refine g_iload_n rfl ?_
        refine g_iload_n rfl ?_
        refine g_if2_lt (fun c721 => ?_) (fun c721 => ?_)
        · refine g_iconst (by decide) (fun v722 kv722 => ?_)
          exact g_iret ⟨_, rfl, hIH702, hJH702, (e703.symm.trans ek0_2), m704⟩
        · refine g_iload rfl ?_
          refine g_if_ge (fun c723 => ?_) (fun c723 => ?_)
          · refine g_aload_n rfl ?_
            refine g_iload_n rfl ?_
            refine g_invvv hIH702 sm_0 rfl rfl rfl rfl (s_201 a2 H702 hIH702 hJH702) (fun H724 r725 => ?_)
            obtain ⟨hIH724, hJH724, w726, m727⟩ := r725
            have e728 : k0_2 = fZ H724 0 2 := e703.trans w726.symm
            have m729 : kpM H H724 := kpM_t m704 m727
            refine g_iconst (by decide) (fun v730 kv730 => ?_)
            refine g_istore (l' := [(0, .ref 0), (1, .int a1), (2, .int a2), (3, .int a3), (4, .int a4), (5, .int v730)]) rfl rfl ?_
            refine g_nop ?_
            have L735 : ∀ (N : Nat) (v731 : Int32) (H732 : mzH), gI SM H732 → JM H732 → k0_2 = fZ H732 0 2 → kpM H H732 → (0 ≤ v731.toInt ∧ v731.toInt ≤ 40) → (40 - v731.toInt).toNat < N → gG 7 zB_240 (mzBlk zB_240 3) [(0, .ref 0), (1, .int a1), (2, .int a2), (3, .int a3), (4, .int a4), (5, .int v731)] [] H732 0 0 (gRi (fun v H' => gI SM H' ∧ JN H' ∧ fZ H' 0 2 = fZ H 0 2 ∧ kpM H H')) := by
              intro N
              induction N with
              | zero => intro v731 H732 hIH732 hJH732 e733 m734 bv731 hmL735; exact absurd hmL735 (Nat.not_lt_zero _)
              | succ N ihL735 =>
                intro v731 H732 hIH732 hJH732 e733 m734 bv731 hmL735
                refine g_iload rfl ?_
                refine g_bipush (by decide) (fun v736 kv736 => ?_)
                refine g_if2_ge (fun c737 => ?_) (fun c737 => ?_)
                · refine g_aload_n rfl ?_
                  refine g_iload_n rfl ?_
                  refine g_invvv hIH732 sm_0 rfl rfl rfl rfl (s_239 a1 H732 hIH732 hJH732) (fun H738 r739 => ?_)
                  obtain ⟨hIH738, hJH738, m740, m741⟩ := r739
                  have e742 : k0_2 = fZ H738 0 2 := e733.trans (m740 0 2).symm
                  have m743 : kpM H H738 := kpM_t m734 m741
                  refine g_iconst (by decide) (fun v744 kv744 => ?_)
                  refine g_istore (l' := [(0, .ref 0), (1, .int a1), (2, .int a2), (3, .int a3), (4, .int a4), (5, .int v744)]) rfl rfl ?_
                  refine g_nop ?_
                  have L749 : ∀ (N : Nat) (v745 : Int32) (H746 : mzH), gI SM H746 → JM H746 → k0_2 = fZ H746 0 2 → kpM H H746 → (0 ≤ v745.toInt ∧ v745.toInt ≤ 60) → (60 - v745.toInt).toNat < N → gG 7 zB_240 (mzBlk zB_240 5) [(0, .ref 0), (1, .int a1), (2, .int a2), (3, .int a3), (4, .int a4), (5, .int v745)] [] H746 0 0 (gRi (fun v H' => gI SM H' ∧ JN H' ∧ fZ H' 0 2 = fZ H 0 2 ∧ kpM H H')) := by
                    intro N
                    induction N with
                    | zero => intro v745 H746 hIH746 hJH746 e747 m748 bv745 hmL749; exact absurd hmL749 (Nat.not_lt_zero _)
                    | succ N ihL749 =>
                      intro v745 H746 hIH746 hJH746 e747 m748 bv745 hmL749
                      refine g_iload rfl ?_
                      refine g_aload_n rfl ?_
                      refine g_gfi hIH746 sm_0 rfl (fun v750 ev750 lv750 uv750 => ?_)
                      refine g_if2_ge (fun c751 => ?_) (fun c751 => ?_)
                      · refine g_aload_n rfl ?_
                        refine g_gfr hIH746 sm_0 rfl ?_
                        refine g_iload rfl ?_
                        refine g_invti rfl rfl rfl (s_237 a4 H746 hIH746 (JM_n hJH746)) (fun v754 H752 r753 => ?_)
                        obtain rfl := r753
                        exact g_iret ⟨_, rfl, hIH746, (JM_n hJH746), (e747.symm.trans ek0_2), m748⟩
                      · refine g_aload_n rfl ?_
                        refine g_gfr hIH746 sm_0 rfl ?_
                        refine g_aload_n rfl ?_
                        refine g_gfr hIH746 sm_0 rfl ?_
                        refine g_iload rfl ?_
                        refine g_iaload hIH746 sm_19 rfl (by first | with_reducible assumption | omega) (fun v755 ev755 lv755 uv755 => ?_)
                        refine g_iaload hIH746 sm_18 rfl (by first | with_reducible assumption | omega) (fun v756 ev756 lv756 uv756 => ?_)
                        refine g_istore (l' := [(0, .ref 0), (1, .int a1), (2, .int a2), (3, .int a3), (4, .int a4), (5, .int v745), (6, .int v756)]) rfl rfl ?_
                        refine g_iload rfl ?_
                        refine g_iload_n rfl ?_
                        refine g_if2_le (fun c757 => ?_) (fun c757 => ?_)
                        · refine g_iinc (l' := (fun v758 => [(0, .ref 0), (1, .int a1), (2, .int a2), (3, .int a3), (4, .int a4), (5, .int v758), (6, .int v756)])) rfl rfl (by decide) (by first | with_reducible assumption | omega) (fun _ => rfl) (fun v758 ev758 => ?_)
                          refine g_goto ?_
                          refine gG_pick [0, 1, 2, 3, 4, 5] (l' := [(0, .ref 0), (1, .int a1), (2, .int a2), (3, .int a3), (4, .int a4), (5, .int v758)]) rfl ?_
                          exact ihL749 v758 H746 hIH746 hJH746 e747 m748 (by first | with_reducible assumption | omega) (by first | with_reducible assumption | omega)
                        · refine g_iload rfl ?_
                          refine g_iload_n rfl ?_
                          refine g_if2_le (fun c759 => ?_) (fun c759 => ?_)
                          · refine g_aload_n rfl ?_
                            refine g_aload_n rfl ?_
                            refine g_gfr hIH746 sm_0 rfl ?_
                            refine g_iload rfl ?_
                            refine g_ialoadk hIH746 sm_19 rfl (by first | with_reducible assumption | omega) ev755 ?_
                            refine g_invvv hIH746 sm_0 rfl rfl rfl rfl (s_193 v755 (by first | with_reducible assumption | omega) H746 hIH746 hJH746) (fun H760 r761 => ?_)
                            obtain ⟨hIH760, hJH760, m762, m763, m764, m765, m766⟩ := r761
                            have e767 : k0_2 = fZ H760 0 2 := e747.trans (m762 0 2).symm
                            have m768 : kpM H H760 := kpM_t m748 m766
                            refine g_aload_n rfl ?_
                            refine g_iload_n rfl ?_
                            refine g_invvv hIH760 sm_0 rfl rfl rfl rfl (s_239 a1 H760 hIH760 hJH760) (fun H769 r770 => ?_)
                            obtain ⟨hIH769, hJH769, m771, m772⟩ := r770
                            have e773 : k0_2 = fZ H769 0 2 := e767.trans (m771 0 2).symm
                            have m774 : kpM H H769 := kpM_t m768 m772
                            refine g_nop ?_
                            refine g_iinc (l' := (fun v775 => [(0, .ref 0), (1, .int a1), (2, .int a2), (3, .int a3), (4, .int a4), (5, .int v775), (6, .int v756)])) rfl rfl (by decide) (by first | with_reducible assumption | omega) (fun _ => rfl) (fun v775 ev775 => ?_)
                            refine g_goto ?_
                            refine gG_pick [0, 1, 2, 3, 4, 5] (l' := [(0, .ref 0), (1, .int a1), (2, .int a2), (3, .int a3), (4, .int a4), (5, .int v775)]) rfl ?_
                            exact ihL749 v775 H769 hIH769 hJH769 e773 m774 (by first | with_reducible assumption | omega) (by first | with_reducible assumption | omega)
                          · refine g_goto ?_
                            refine g_iinc (l' := (fun v776 => [(0, .ref 0), (1, .int a1), (2, .int a2), (3, .int a3), (4, .int a4), (5, .int v776), (6, .int v756)])) rfl rfl (by decide) (by first | with_reducible assumption | omega) (fun _ => rfl) (fun v776 ev776 => ?_)
                            refine g_goto ?_
                            refine gG_pick [0, 1, 2, 3, 4, 5] (l' := [(0, .ref 0), (1, .int a1), (2, .int a2), (3, .int a3), (4, .int a4), (5, .int v776)]) rfl ?_
                            exact ihL749 v776 H746 hIH746 hJH746 e747 m748 (by first | with_reducible assumption | omega) (by first | with_reducible assumption | omega)
                  exact L749 _ v744 H738 hIH738 hJH738 e742 m743 (by first | with_reducible assumption | omega) (Nat.lt_succ_self _)
                · refine g_aload_n rfl ?_
                  refine g_gfr hIH732 sm_0 rfl ?_
                  refine g_iload rfl ?_
                  refine g_iconst (by decide) (fun v777 kv777 => ?_)
                  refine g_zastore hIH732 sm_25 (by first | with_reducible assumption | omega) (by first | with_reducible assumption | omega) (fun H778 eH778 hIH778 => ?_)
                  have hJH778 : JM H778 := JM_sA (by decide) eH778 hJH732
                  have e779 : k0_2 = fZ H778 0 2 := by rw [eH778, fZ_sA]; exact e733
                  have m780 : kpM H H778 := kpM_A m734 eH778 (by first | with_reducible assumption | omega)
                  refine g_iinc (l' := (fun v781 => [(0, .ref 0), (1, .int a1), (2, .int a2), (3, .int a3), (4, .int a4), (5, .int v781)])) rfl rfl (by decide) (by first | with_reducible assumption | omega) (fun _ => rfl) (fun v781 ev781 => ?_)
                  refine g_goto ?_
                  exact ihL735 v781 H778 hIH778 hJH778 e779 m780 (by first | with_reducible assumption | omega) (by first | with_reducible assumption | omega)
            exact L735 _ v730 H724 hIH724 hJH724 e728 m729 (by first | with_reducible assumption | omega) (Nat.lt_succ_self _)
          · refine g_nop ?_
            refine g_iconst (by decide) (fun v782 kv782 => ?_)
            exact g_iret ⟨_, rfl, hIH702, hJH702, (e703.symm.trans ek0_2), m704⟩
set_option maxRecDepth 4000 in
set_option maxHeartbeats 4000000 in
/-- M.most -/
theorem s_241 (a1 : Int32) (H : mzH) (hI : gI SM H) (hJ : JN H) : gCall 241 [.ref 0, .int a1] H (gRi (fun v H' => gI SM H' ∧ JN H' ∧ fZ H' 0 2 = fZ H 0 2 ∧ kpM H H')) := by
  obtain ⟨k0_2, ek0_2⟩ : ∃ z, z = fZ H 0 2 := ⟨_, rfl⟩
  have ik0_2 : k0_2.toInt = (fZ H 0 2).toInt := by rw [← ek0_2]
  have bk0_2 : 0 ≤ k0_2.toInt ∧ k0_2.toInt ≤ 900 := by rw [ek0_2]; exact fZ_of hI sm_0 rfl
  have mkfr : kpM H H := kpM_r
  refine gG_call [(0, .ref 0), (1, .int a1)] ⟨rfl, rfl, trivial⟩ ?_
  show gG 4 zB_241 (mzBlk zB_241 0) [(0, .ref 0), (1, .int a1)] [] H 0 0 _
  refine g_aload_n rfl ?_
  refine g_iconst (by decide) (fun v485 kv485 => ?_)
  refine g_pfi hI sm_0 rfl (gz_any _) (fun H486 eH486 hIH486 => ?_)
  have hJH486 : JN H486 := JN_sF eH486 hJ
  have e487 : k0_2 = fZ H486 0 2 := by rw [eH486, fZ_sF_ne (by decide)]; exact ek0_2
  have m488 : kpM H H486 := kpM_F mkfr eH486 (by first | with_reducible assumption | omega)
  refine g_iload_n rfl ?_
  refine g_invti rfl rfl rfl (s_206 a1 H486 hIH486 hJH486) (fun v491 H489 r490 => ?_)
  obtain ⟨rfl, bv491, p492⟩ := r490
  refine g_if_ne (fun c493 => ?_) (fun c493 => ?_)
  · refine g_aload_n rfl ?_
    refine g_invvv hIH486 sm_0 rfl rfl rfl rfl (s_183 H486 hIH486 hJH486) (fun H494 r495 => ?_)
    obtain ⟨hIH494, hJH494, m496, m497, m498, p499⟩ := r495
    have e500 : k0_2 = fZ H494 0 2 := e487.trans (m496 0 2).symm
    have m501 : kpM H H494 := kpM_t m488 m498
    refine g_aload_n rfl ?_
    refine g_invvv hIH494 sm_0 rfl rfl rfl rfl (s_185 H494 hIH494 hJH494) (fun H502 r503 => ?_)
    obtain ⟨hIH502, hJH502, w504, w505, m506, m507, m508, p509⟩ := r503
    have e510 : k0_2 = fZ H502 0 2 := e500.trans w504.symm
    have m511 : kpM H H502 := kpM_t m501 m508
    refine g_iconst (by decide) (fun v512 kv512 => ?_)
    refine g_istore_n (l' := [(0, .ref 0), (1, .int a1), (2, .int v512)]) rfl rfl ?_
    refine g_iconst (by decide) (fun v513 kv513 => ?_)
    refine g_istore_n (l' := [(0, .ref 0), (1, .int a1), (2, .int v512), (3, .int v513)]) rfl rfl ?_
    refine g_nop ?_
    have L519 : ∀ (N : Nat) (v514 : Int32) (v515 : Int32) (H516 : mzH), gI SM H516 → JM H516 → k0_2 = fZ H516 0 2 → kpM H H516 → (0 ≤ v515.toInt ∧ v515.toInt ≤ 60) → (60 - v515.toInt).toNat < N → gG 4 zB_241 (mzBlk zB_241 2) [(0, .ref 0), (1, .int a1), (2, .int v514), (3, .int v515)] [] H516 0 0 (gRi (fun v H' => gI SM H' ∧ JN H' ∧ fZ H' 0 2 = fZ H 0 2 ∧ kpM H H')) := by
      intro N
      induction N with
      | zero => intro v514 v515 H516 hIH516 hJH516 e517 m518 bv515 hmL519; exact absurd hmL519 (Nat.not_lt_zero _)
      | succ N ihL519 =>
        intro v514 v515 H516 hIH516 hJH516 e517 m518 bv515 hmL519
        refine g_iload_n rfl ?_
        refine g_aload_n rfl ?_
        refine g_gfi hIH516 sm_0 rfl (fun v520 ev520 lv520 uv520 => ?_)
        refine g_if2_ge (fun c521 => ?_) (fun c521 => ?_)
        · refine g_aload_n rfl ?_
          refine g_gfr hIH516 sm_0 rfl ?_
          refine g_iload_n rfl ?_
          refine g_baload hIH516 sm_7 rfl (by first | with_reducible assumption | omega) (fun v522 ev522 lv522 uv522 => ?_)
          refine g_if_eq (fun c523 => ?_) (fun c523 => ?_)
          · refine g_bipush (by decide) (fun v524 kv524 => ?_)
            refine g_nop ?_
            exact g_iret ⟨_, rfl, hIH516, (JM_n hJH516), (e517.symm.trans ek0_2), m518⟩
          · refine g_iload_n rfl ?_
            refine g_goto ?_
            exact g_iret ⟨_, rfl, hIH516, (JM_n hJH516), (e517.symm.trans ek0_2), m518⟩
        · refine g_aload_n rfl ?_
          refine g_aload_n rfl ?_
          refine g_gfr hIH516 sm_0 rfl ?_
          refine g_iload_n rfl ?_
          refine g_iaload hIH516 sm_19 rfl (by first | with_reducible assumption | omega) (fun v525 ev525 lv525 uv525 => ?_)
          refine g_invvv hIH516 sm_0 rfl rfl rfl rfl (s_193 v525 (by first | with_reducible assumption | omega) H516 hIH516 hJH516) (fun H526 r527 => ?_)
          obtain ⟨hIH526, hJH526, m528, m529, m530, m531, m532⟩ := r527
          have e533 : k0_2 = fZ H526 0 2 := e517.trans (m528 0 2).symm
          have m534 : kpM H H526 := kpM_t m518 m532
          refine g_aload_n rfl ?_
          refine g_iload_n rfl ?_
          refine g_invvi hIH526 sm_0 rfl rfl rfl rfl (s_208 a1 H526 hIH526 hJH526) (fun v537 H535 r536 => ?_)
          obtain rfl := r536
          refine g_iload_n rfl ?_
          refine g_if2_le (fun c538 => ?_) (fun c538 => ?_)
          · refine g_iload_n rfl ?_
            refine g_nop ?_
            refine g_istore_n (l' := [(0, .ref 0), (1, .int a1), (2, .int v514), (3, .int v515)]) rfl rfl ?_
            refine g_iinc (l' := (fun v539 => [(0, .ref 0), (1, .int a1), (2, .int v514), (3, .int v539)])) rfl rfl (by decide) (by first | with_reducible assumption | omega) (fun _ => rfl) (fun v539 ev539 => ?_)
            refine g_goto ?_
            exact ihL519 v514 v539 H526 hIH526 hJH526 e533 m534 (by first | with_reducible assumption | omega) (by first | with_reducible assumption | omega)
          · refine g_aload_n rfl ?_
            refine g_iload_n rfl ?_
            refine g_invvi hIH526 sm_0 rfl rfl rfl rfl (s_208 a1 H526 hIH526 hJH526) (fun v542 H540 r541 => ?_)
            obtain rfl := r541
            refine g_goto ?_
            refine g_istore_n (l' := [(0, .ref 0), (1, .int a1), (2, .int v542), (3, .int v515)]) rfl rfl ?_
            refine g_iinc (l' := (fun v543 => [(0, .ref 0), (1, .int a1), (2, .int v542), (3, .int v543)])) rfl rfl (by decide) (by first | with_reducible assumption | omega) (fun _ => rfl) (fun v543 ev543 => ?_)
            refine g_goto ?_
            exact ihL519 v542 v543 H526 hIH526 hJH526 e533 m534 (by first | with_reducible assumption | omega) (by first | with_reducible assumption | omega)
    exact L519 _ v512 v513 H502 hIH502 hJH502 e510 m511 (by first | with_reducible assumption | omega) (Nat.lt_succ_self _)
  · refine g_iconst (by decide) (fun v544 kv544 => ?_)
    exact g_iret ⟨_, rfl, hIH486, hJH486, (e487.symm.trans ek0_2), m488⟩
set_option maxRecDepth 4000 in
set_option maxHeartbeats 4000000 in
/-- M.bitsIn -/
theorem s_242 (a1 : Int32) (H : mzH) (hI : gI SM H) (hJ : JM H) : gCall 242 [.ref 0, .int a1] H (gRl (fun _ H' => H = H')) := by
  refine gG_call [(0, .ref 0), (1, .int a1)] ⟨rfl, rfl, trivial⟩ ?_
  show gG 5 zB_242 (mzBlk zB_242 0) [(0, .ref 0), (1, .int a1)] [] H 0 0 _
  refine g_lconst (fun v177 _ => ?_)
  refine g_lstore_n (l' := [(0, .ref 0), (1, .int a1), (2, .long v177)]) rfl rfl ?_
  refine g_iconst (by decide) (fun v178 kv178 => ?_)
  refine g_istore (l' := [(0, .ref 0), (1, .int a1), (2, .long v177), (4, .int v178)]) rfl rfl ?_
  refine g_nop ?_
  have L181 : ∀ (N : Nat) (v179 : Int64) (v180 : Int32), (0 ≤ v180.toInt ∧ v180.toInt ≤ 40) → (40 - v180.toInt).toNat < N → gG 5 zB_242 (mzBlk zB_242 1) [(0, .ref 0), (1, .int a1), (2, .long v179), (4, .int v180)] [] H 0 0 (gRl (fun _ H' => H = H')) := by
    intro N
    induction N with
    | zero => intro v179 v180 bv180 hmL181; exact absurd hmL181 (Nat.not_lt_zero _)
    | succ N ihL181 =>
      intro v179 v180 bv180 hmL181
      refine g_iload rfl ?_
      refine g_bipush (by decide) (fun v182 kv182 => ?_)
      refine g_if2_ge (fun c183 => ?_) (fun c183 => ?_)
      · refine g_lload_n rfl ?_
        exact g_lret ⟨_, rfl, rfl⟩
      · refine g_aload_n rfl ?_
        refine g_iload rfl ?_
        refine g_iload_n rfl ?_
        refine g_invvi hI sm_0 rfl rfl rfl rfl (s_187 v180 (by first | with_reducible assumption | omega) a1 H hI hJ) (fun v186 H184 r185 => ?_)
        obtain ⟨rfl, bv186⟩ := r185
        refine g_if_eq (fun c187 => ?_) (fun c187 => ?_)
        · refine g_iinc (l' := (fun v188 => [(0, .ref 0), (1, .int a1), (2, .long v179), (4, .int v188)])) rfl rfl (by decide) (by first | with_reducible assumption | omega) (fun _ => rfl) (fun v188 ev188 => ?_)
          refine g_goto ?_
          exact ihL181 v179 v188 (by first | with_reducible assumption | omega) (by first | with_reducible assumption | omega)
        · refine g_lload_n rfl ?_
          refine g_lconst (fun v189 _ => ?_)
          refine g_iload rfl ?_
          refine g_lshl (fun v190 _ => ?_)
          refine g_lor (fun v191 _ => ?_)
          refine g_lstore_n (l' := [(0, .ref 0), (1, .int a1), (2, .long v191), (4, .int v180)]) rfl rfl ?_
          refine g_nop ?_
          refine g_iinc (l' := (fun v192 => [(0, .ref 0), (1, .int a1), (2, .long v191), (4, .int v192)])) rfl rfl (by decide) (by first | with_reducible assumption | omega) (fun _ => rfl) (fun v192 ev192 => ?_)
          refine g_goto ?_
          exact ihL181 v191 v192 (by first | with_reducible assumption | omega) (by first | with_reducible assumption | omega)
  exact L181 _ v177 v178 (by first | with_reducible assumption | omega) (Nat.lt_succ_self _)
set_option maxRecDepth 4000 in
set_option maxHeartbeats 4000000 in
/-- M.still -/
theorem s_243 (a1 : Int32) (a2 : Int32) (H : mzH) (hI : gI SM H) (hJ : JN H) : gCall 243 [.ref 0, .int a1, .int a2] H (gRi (fun v H' => gI SM H' ∧ JN H' ∧ fZ H' 0 2 = fZ H 0 2 ∧ kpM H H')) := by
  obtain ⟨k0_2, ek0_2⟩ : ∃ z, z = fZ H 0 2 := ⟨_, rfl⟩
  have ik0_2 : k0_2.toInt = (fZ H 0 2).toInt := by rw [← ek0_2]
  have bk0_2 : 0 ≤ k0_2.toInt ∧ k0_2.toInt ≤ 900 := by rw [ek0_2]; exact fZ_of hI sm_0 rfl
  have mkfr : kpM H H := kpM_r
  refine gG_call [(0, .ref 0), (1, .int a1), (2, .int a2)] ⟨rfl, rfl, rfl, trivial⟩ ?_
  show gG 8 zB_243 (mzBlk zB_243 0) [(0, .ref 0), (1, .int a1), (2, .int a2)] [] H 0 0 _
  refine g_aload_n rfl ?_
  refine g_iconst (by decide) (fun v827 kv827 => ?_)
  refine g_pfi hI sm_0 rfl (gz_any _) (fun H828 eH828 hIH828 => ?_)
  have hJH828 : JN H828 := JN_sF eH828 hJ
  have e829 : k0_2 = fZ H828 0 2 := by rw [eH828, fZ_sF_ne (by decide)]; exact ek0_2
  have m830 : kpM H H828 := kpM_F mkfr eH828 (by first | with_reducible assumption | omega)
  refine g_iload_n rfl ?_
  refine g_invti rfl rfl rfl (s_206 a1 H828 hIH828 hJH828) (fun v833 H831 r832 => ?_)
  obtain ⟨rfl, bv833, p834⟩ := r832
  refine g_if_eq (fun c835 => ?_) (fun c835 => ?_)
  · refine g_iconst (by decide) (fun v836 kv836 => ?_)
    exact g_iret ⟨_, rfl, hIH828, hJH828, (e829.symm.trans ek0_2), m830⟩
  · refine g_iload_n rfl ?_
    refine g_invti rfl rfl rfl (s_207 a2 H828 hIH828 hJH828) (fun v839 H837 r838 => ?_)
    obtain ⟨rfl, bv839⟩ := r838
    refine g_if_ne (fun c840 => ?_) (fun c840 => ?_)
    · refine g_aload_n rfl ?_
      refine g_invvv hIH828 sm_0 rfl rfl rfl rfl (s_183 H828 hIH828 hJH828) (fun H841 r842 => ?_)
      obtain ⟨hIH841, hJH841, m843, m844, m845, p846⟩ := r842
      have e847 : k0_2 = fZ H841 0 2 := e829.trans (m843 0 2).symm
      have m848 : kpM H H841 := kpM_t m830 m845
      refine g_aload_n rfl ?_
      refine g_invvv hIH841 sm_0 rfl rfl rfl rfl (s_185 H841 hIH841 hJH841) (fun H849 r850 => ?_)
      obtain ⟨hIH849, hJH849, w851, w852, m853, m854, m855, p856⟩ := r850
      have e857 : k0_2 = fZ H849 0 2 := e847.trans w851.symm
      have m858 : kpM H H849 := kpM_t m848 m855
      refine g_bipush (by decide) (fun v859 kv859 => ?_)
      refine g_istore_n (l' := [(0, .ref 0), (1, .int a1), (2, .int a2), (3, .int v859)]) rfl rfl ?_
      refine g_iconst (by decide) (fun v860 kv860 => ?_)
      refine g_istore (l' := [(0, .ref 0), (1, .int a1), (2, .int a2), (3, .int v859), (4, .int v860)]) rfl rfl ?_
      refine g_nop ?_
      have L866 : ∀ (N : Nat) (v861 : Int32) (v862 : Int32) (H863 : mzH), gI SM H863 → JM H863 → k0_2 = fZ H863 0 2 → kpM H H863 → (0 ≤ v862.toInt ∧ v862.toInt ≤ 60) → (60 - v862.toInt).toNat < N → gG 8 zB_243 (mzBlk zB_243 3) [(0, .ref 0), (1, .int a1), (2, .int a2), (3, .int v861), (4, .int v862)] [] H863 0 0 (gRi (fun v H' => gI SM H' ∧ JN H' ∧ fZ H' 0 2 = fZ H 0 2 ∧ kpM H H')) := by
        intro N
        induction N with
        | zero => intro v861 v862 H863 hIH863 hJH863 e864 m865 bv862 hmL866; exact absurd hmL866 (Nat.not_lt_zero _)
        | succ N ihL866 =>
          intro v861 v862 H863 hIH863 hJH863 e864 m865 bv862 hmL866
          refine g_iload rfl ?_
          refine g_aload_n rfl ?_
          refine g_gfi hIH863 sm_0 rfl (fun v867 ev867 lv867 uv867 => ?_)
          refine g_if2_ge (fun c868 => ?_) (fun c868 => ?_)
          · refine g_aload_n rfl ?_
            refine g_gfr hIH863 sm_0 rfl ?_
            refine g_iload_n rfl ?_
            refine g_baload hIH863 sm_7 rfl (by first | with_reducible assumption | omega) (fun v869 ev869 lv869 uv869 => ?_)
            refine g_if_ne (fun c870 => ?_) (fun c870 => ?_)
            · refine g_aload_n rfl ?_
              refine g_gfr hIH863 sm_0 rfl ?_
              refine g_iload_n rfl ?_
              refine g_baload hIH863 sm_16 rfl (by first | with_reducible assumption | omega) (fun v871 ev871 lv871 uv871 => ?_)
              refine g_if_eq (fun c872 => ?_) (fun c872 => ?_)
              · refine g_iload_n rfl ?_
                refine g_nop ?_
                exact g_iret ⟨_, rfl, hIH863, (JM_n hJH863), (e864.symm.trans ek0_2), m865⟩
              · refine g_bipush (by decide) (fun v873 kv873 => ?_)
                refine g_goto ?_
                exact g_iret ⟨_, rfl, hIH863, (JM_n hJH863), (e864.symm.trans ek0_2), m865⟩
            · refine g_bipush (by decide) (fun v874 kv874 => ?_)
              refine g_goto ?_
              exact g_iret ⟨_, rfl, hIH863, (JM_n hJH863), (e864.symm.trans ek0_2), m865⟩
          · refine g_aload_n rfl ?_
            refine g_gfr hIH863 sm_0 rfl ?_
            refine g_aload_n rfl ?_
            refine g_gfr hIH863 sm_0 rfl ?_
            refine g_iload rfl ?_
            refine g_iaload hIH863 sm_19 rfl (by first | with_reducible assumption | omega) (fun v875 ev875 lv875 uv875 => ?_)
            refine g_iaload hIH863 sm_18 rfl (by first | with_reducible assumption | omega) (fun v876 ev876 lv876 uv876 => ?_)
            refine g_iload_n rfl ?_
            refine g_if2_gt (fun c877 => ?_) (fun c877 => ?_)
            · refine g_aload_n rfl ?_
              refine g_gfr hIH863 sm_0 rfl ?_
              refine g_iload_n rfl ?_
              refine g_baload hIH863 sm_7 rfl (by first | with_reducible assumption | omega) (fun v878 ev878 lv878 uv878 => ?_)
              refine g_if_ne (fun c879 => ?_) (fun c879 => ?_)
              · refine g_aload_n rfl ?_
                refine g_gfr hIH863 sm_0 rfl ?_
                refine g_iload_n rfl ?_
                refine g_baload hIH863 sm_16 rfl (by first | with_reducible assumption | omega) (fun v880 ev880 lv880 uv880 => ?_)
                refine g_if_eq (fun c881 => ?_) (fun c881 => ?_)
                · refine g_iload_n rfl ?_
                  refine g_nop ?_
                  exact g_iret ⟨_, rfl, hIH863, (JM_n hJH863), (e864.symm.trans ek0_2), m865⟩
                · refine g_bipush (by decide) (fun v882 kv882 => ?_)
                  refine g_goto ?_
                  exact g_iret ⟨_, rfl, hIH863, (JM_n hJH863), (e864.symm.trans ek0_2), m865⟩
              · refine g_bipush (by decide) (fun v883 kv883 => ?_)
                refine g_goto ?_
                exact g_iret ⟨_, rfl, hIH863, (JM_n hJH863), (e864.symm.trans ek0_2), m865⟩
            · refine g_aload_n rfl ?_
              refine g_gfr hIH863 sm_0 rfl ?_
              refine g_iload_n rfl ?_
              refine g_baload hIH863 sm_7 rfl (by first | with_reducible assumption | omega) (fun v884 ev884 lv884 uv884 => ?_)
              refine g_istore (l' := [(0, .ref 0), (1, .int a1), (2, .int a2), (3, .int v861), (4, .int v862), (5, .int v884)]) rfl rfl ?_
              refine g_aload_n rfl ?_
              refine g_iload_n rfl ?_
              refine g_invvl hIH863 sm_0 rfl rfl rfl rfl (s_242 a1 H863 hIH863 hJH863) (fun v887 H885 r886 => ?_)
              obtain rfl := r886
              refine g_lstore (l' := [(0, .ref 0), (1, .int a1), (2, .int a2), (3, .int v861), (4, .int v862), (5, .int v884), (6, .long v887)]) rfl rfl ?_
              refine g_aload_n rfl ?_
              refine g_aload_n rfl ?_
              refine g_gfr hIH863 sm_0 rfl ?_
              refine g_iload rfl ?_
              refine g_ialoadk hIH863 sm_19 rfl (by first | with_reducible assumption | omega) ev875 ?_
              refine g_invvv hIH863 sm_0 rfl rfl rfl rfl (s_193 v875 (by first | with_reducible assumption | omega) H863 hIH863 hJH863) (fun H888 r889 => ?_)
              obtain ⟨hIH888, hJH888, m890, m891, m892, m893, m894⟩ := r889
              have e895 : k0_2 = fZ H888 0 2 := e864.trans (m890 0 2).symm
              have m896 : kpM H H888 := kpM_t m865 m894
              refine g_aload_n rfl ?_
              refine g_gfr hIH888 sm_0 rfl ?_
              refine g_iload_n rfl ?_
              refine g_baload hIH888 sm_7 rfl (by first | with_reducible assumption | omega) (fun v897 ev897 lv897 uv897 => ?_)
              refine g_if_eq (fun c898 => ?_) (fun c898 => ?_)
              · refine g_iinc (l' := (fun v899 => [(0, .ref 0), (1, .int a1), (2, .int a2), (3, .int v861), (4, .int v899), (5, .int v884), (6, .long v887)])) rfl rfl (by decide) (by first | with_reducible assumption | omega) (fun _ => rfl) (fun v899 ev899 => ?_)
                refine g_goto ?_
                refine gG_pick [0, 1, 2, 3, 4] (l' := [(0, .ref 0), (1, .int a1), (2, .int a2), (3, .int v861), (4, .int v899)]) rfl ?_
                exact ihL866 v861 v899 H888 hIH888 hJH888 e895 m896 (by first | with_reducible assumption | omega) (by first | with_reducible assumption | omega)
              · refine g_iload rfl ?_
                refine g_if_eq (fun c900 => ?_) (fun c900 => ?_)
                · refine g_aload_n rfl ?_
                  refine g_gfr hIH888 sm_0 rfl ?_
                  refine g_aload_n rfl ?_
                  refine g_gfr hIH888 sm_0 rfl ?_
                  refine g_iload rfl ?_
                  refine g_iaload hIH888 sm_19 rfl (by first | with_reducible assumption | omega) (fun v901 ev901 lv901 uv901 => ?_)
                  refine g_iaload hIH888 sm_18 rfl (by first | with_reducible assumption | omega) (fun v902 ev902 lv902 uv902 => ?_)
                  refine g_istore_n (l' := [(0, .ref 0), (1, .int a1), (2, .int a2), (3, .int v902), (4, .int v862), (5, .int v884), (6, .long v887)]) rfl rfl ?_
                  refine g_nop ?_
                  refine g_iinc (l' := (fun v903 => [(0, .ref 0), (1, .int a1), (2, .int a2), (3, .int v902), (4, .int v903), (5, .int v884), (6, .long v887)])) rfl rfl (by decide) (by first | with_reducible assumption | omega) (fun _ => rfl) (fun v903 ev903 => ?_)
                  refine g_goto ?_
                  refine gG_pick [0, 1, 2, 3, 4] (l' := [(0, .ref 0), (1, .int a1), (2, .int a2), (3, .int v902), (4, .int v903)]) rfl ?_
                  exact ihL866 v902 v903 H888 hIH888 hJH888 e895 m896 (by first | with_reducible assumption | omega) (by first | with_reducible assumption | omega)
                · refine g_aload_n rfl ?_
                  refine g_iload_n rfl ?_
                  refine g_invvl hIH888 sm_0 rfl rfl rfl rfl (s_242 a1 H888 hIH888 hJH888) (fun v906 H904 r905 => ?_)
                  obtain rfl := r905
                  refine g_lload rfl ?_
                  refine g_lcmp (fun v907 _ => ?_)
                  refine g_if_eq (fun c908 => ?_) (fun c908 => ?_)
                  · refine g_iinc (l' := (fun v909 => [(0, .ref 0), (1, .int a1), (2, .int a2), (3, .int v861), (4, .int v909), (5, .int v884), (6, .long v887)])) rfl rfl (by decide) (by first | with_reducible assumption | omega) (fun _ => rfl) (fun v909 ev909 => ?_)
                    refine g_goto ?_
                    refine gG_pick [0, 1, 2, 3, 4] (l' := [(0, .ref 0), (1, .int a1), (2, .int a2), (3, .int v861), (4, .int v909)]) rfl ?_
                    exact ihL866 v861 v909 H888 hIH888 hJH888 e895 m896 (by first | with_reducible assumption | omega) (by first | with_reducible assumption | omega)
                  · refine g_nop ?_
                    refine g_aload_n rfl ?_
                    refine g_gfr hIH888 sm_0 rfl ?_
                    refine g_aload_n rfl ?_
                    refine g_gfr hIH888 sm_0 rfl ?_
                    refine g_iload rfl ?_
                    refine g_iaload hIH888 sm_19 rfl (by first | with_reducible assumption | omega) (fun v910 ev910 lv910 uv910 => ?_)
                    refine g_iaload hIH888 sm_18 rfl (by first | with_reducible assumption | omega) (fun v911 ev911 lv911 uv911 => ?_)
                    refine g_istore_n (l' := [(0, .ref 0), (1, .int a1), (2, .int a2), (3, .int v911), (4, .int v862), (5, .int v884), (6, .long v887)]) rfl rfl ?_
                    refine g_nop ?_
                    refine g_iinc (l' := (fun v912 => [(0, .ref 0), (1, .int a1), (2, .int a2), (3, .int v911), (4, .int v912), (5, .int v884), (6, .long v887)])) rfl rfl (by decide) (by first | with_reducible assumption | omega) (fun _ => rfl) (fun v912 ev912 => ?_)
                    refine g_goto ?_
                    refine gG_pick [0, 1, 2, 3, 4] (l' := [(0, .ref 0), (1, .int a1), (2, .int a2), (3, .int v911), (4, .int v912)]) rfl ?_
                    exact ihL866 v911 v912 H888 hIH888 hJH888 e895 m896 (by first | with_reducible assumption | omega) (by first | with_reducible assumption | omega)
      exact L866 _ v859 v860 H849 hIH849 hJH849 e857 m858 (by first | with_reducible assumption | omega) (Nat.lt_succ_self _)
    · refine g_nop ?_
      refine g_iconst (by decide) (fun v913 kv913 => ?_)
      exact g_iret ⟨_, rfl, hIH828, hJH828, (e829.symm.trans ek0_2), m830⟩
set_option maxRecDepth 4000 in
set_option maxHeartbeats 4000000 in
/-- M.components -/
theorem s_244 (a1 : Int32) (a2 : Int32) (H : mzH) (hI : gI SM H) (hJ : JN H) : gCall 244 [.ref 0, .int a1, .int a2] H (gRi (fun v H' => gI SM H' ∧ JN H' ∧ fZ H' 0 2 = fZ H 0 2 ∧ kpM H H')) := by
  obtain ⟨k0_2, ek0_2⟩ : ∃ z, z = fZ H 0 2 := ⟨_, rfl⟩
  have ik0_2 : k0_2.toInt = (fZ H 0 2).toInt := by rw [← ek0_2]
  have bk0_2 : 0 ≤ k0_2.toInt ∧ k0_2.toInt ≤ 900 := by rw [ek0_2]; exact fZ_of hI sm_0 rfl
  have mkfr : kpM H H := kpM_r
  refine gG_call [(0, .ref 0), (1, .int a1), (2, .int a2)] ⟨rfl, rfl, rfl, trivial⟩ ?_
  show gG 6 zB_244 (mzBlk zB_244 0) [(0, .ref 0), (1, .int a1), (2, .int a2)] [] H 0 0 _
  refine g_aload_n rfl ?_
  refine g_iconst (by decide) (fun v1503 kv1503 => ?_)
  refine g_pfi hI sm_0 rfl (gz_any _) (fun H1504 eH1504 hIH1504 => ?_)
  have hJH1504 : JN H1504 := JN_sF eH1504 hJ
  have e1505 : k0_2 = fZ H1504 0 2 := by rw [eH1504, fZ_sF_ne (by decide)]; exact ek0_2
  have m1506 : kpM H H1504 := kpM_F mkfr eH1504 (by first | with_reducible assumption | omega)
  refine g_aload_n rfl ?_
  refine g_iload_n rfl ?_
  refine g_invvi hIH1504 sm_0 rfl rfl rfl rfl (s_211 a1 H1504 hIH1504 hJH1504) (fun v1509 H1507 r1508 => ?_)
  obtain ⟨rfl, bv1509, p1510⟩ := r1508
  refine g_if_eq (fun c1511 => ?_) (fun c1511 => ?_)
  · refine g_iconst (by decide) (fun v1512 kv1512 => ?_)
    exact g_iret ⟨_, rfl, hIH1504, hJH1504, (e1505.symm.trans ek0_2), m1506⟩
  · refine g_iload_n rfl ?_
    refine g_invti rfl rfl rfl (s_207 a2 H1504 hIH1504 hJH1504) (fun v1515 H1513 r1514 => ?_)
    obtain ⟨rfl, bv1515⟩ := r1514
    refine g_if_ne (fun c1516 => ?_) (fun c1516 => ?_)
    · refine g_aload_n rfl ?_
      refine g_iload_n rfl ?_
      refine g_invvv hIH1504 sm_0 rfl rfl rfl rfl (s_201 a2 H1504 hIH1504 hJH1504) (fun H1517 r1518 => ?_)
      obtain ⟨hIH1517, hJH1517, w1519, m1520⟩ := r1518
      have e1521 : k0_2 = fZ H1517 0 2 := e1505.trans w1519.symm
      have m1522 : kpM H H1517 := kpM_t m1506 m1520
      refine g_iconst (by decide) (fun v1523 kv1523 => ?_)
      refine g_istore_n (l' := [(0, .ref 0), (1, .int a1), (2, .int a2), (3, .int v1523)]) rfl rfl ?_
      refine g_iconst (by decide) (fun v1524 kv1524 => ?_)
      refine g_istore (l' := [(0, .ref 0), (1, .int a1), (2, .int a2), (3, .int v1523), (4, .int v1524)]) rfl rfl ?_
      refine g_nop ?_
      have L1527 : ∀ (N : Nat) (v1525 : Int32) (v1526 : Int32), (0 ≤ v1526.toInt ∧ v1526.toInt ≤ 40) → (40 - v1526.toInt).toNat < N → gG 6 zB_244 (mzBlk zB_244 3) [(0, .ref 0), (1, .int a1), (2, .int a2), (3, .int v1525), (4, .int v1526)] [] H1517 0 0 (gRi (fun v H' => gI SM H' ∧ JN H' ∧ fZ H' 0 2 = fZ H 0 2 ∧ kpM H H')) := by
        intro N
        induction N with
        | zero => intro v1525 v1526 bv1526 hmL1527; exact absurd hmL1527 (Nat.not_lt_zero _)
        | succ N ihL1527 =>
          intro v1525 v1526 bv1526 hmL1527
          refine g_iload rfl ?_
          refine g_bipush (by decide) (fun v1528 kv1528 => ?_)
          refine g_if2_ge (fun c1529 => ?_) (fun c1529 => ?_)
          · refine g_iload_n rfl ?_
            exact g_iret ⟨_, rfl, hIH1517, (JM_n hJH1517), (e1521.symm.trans ek0_2), m1522⟩
          · refine g_aload_n rfl ?_
            refine g_gfr hIH1517 sm_0 rfl ?_
            refine g_iload rfl ?_
            refine g_iaload hIH1517 sm_9 rfl (by first | with_reducible assumption | omega) (fun v1530 ev1530 lv1530 uv1530 => ?_)
            have qv1530 := JM_in hJH1517 (by first | with_reducible assumption | omega) ev1530
            refine g_bipush (by decide) (fun v1531 kv1531 => ?_)
            refine g_if2_eq (fun c1532 => ?_) (fun c1532 => ?_)
            · refine g_iconst (by decide) (fun v1533 kv1533 => ?_)
              refine g_goto ?_
              refine g_istore (l' := [(0, .ref 0), (1, .int a1), (2, .int a2), (3, .int v1525), (4, .int v1526), (5, .int v1533)]) rfl rfl ?_
              refine g_iload_n rfl ?_
              refine g_aload_n rfl ?_
              refine g_iload rfl ?_
              refine g_invvi hIH1517 sm_0 rfl rfl rfl rfl (s_202 v1526 (by first | with_reducible assumption | omega) H1517 hIH1517 hJH1517) (fun v1536 H1534 r1535 => ?_)
              obtain ⟨rfl, bv1536⟩ := r1535
              refine g_iload_n rfl ?_
              refine g_if2_ne (fun c1537 => ?_) (fun c1537 => ?_)
              · refine g_iconst (by decide) (fun v1538 kv1538 => ?_)
                refine g_nop ?_
                refine g_iadd (by have := gz_any v1525; omega) (fun v1539 ev1539 => ?_)
                refine g_istore_n (l' := [(0, .ref 0), (1, .int a1), (2, .int a2), (3, .int v1539), (4, .int v1526), (5, .int v1533)]) rfl rfl ?_
                refine g_iinc (l' := (fun v1540 => [(0, .ref 0), (1, .int a1), (2, .int a2), (3, .int v1539), (4, .int v1540), (5, .int v1533)])) rfl rfl (by decide) (by first | with_reducible assumption | omega) (fun _ => rfl) (fun v1540 ev1540 => ?_)
                refine g_goto ?_
                refine gG_pick [0, 1, 2, 3, 4] (l' := [(0, .ref 0), (1, .int a1), (2, .int a2), (3, .int v1539), (4, .int v1540)]) rfl ?_
                exact ihL1527 v1539 v1540 (by first | with_reducible assumption | omega) (by first | with_reducible assumption | omega)
              · refine g_iload rfl ?_
                refine g_if_eq (fun c1541 => ?_) (fun c1541 => ?_)
                · exfalso; omega
                · refine g_iconst (by decide) (fun v1542 kv1542 => ?_)
                  refine g_goto ?_
                  refine g_iadd' (fun v1543 ov1543 => ?_)
                  refine g_istore_n (l' := [(0, .ref 0), (1, .int a1), (2, .int a2), (3, .int v1543), (4, .int v1526), (5, .int v1533)]) rfl rfl ?_
                  refine g_iinc (l' := (fun v1544 => [(0, .ref 0), (1, .int a1), (2, .int a2), (3, .int v1543), (4, .int v1544), (5, .int v1533)])) rfl rfl (by decide) (by first | with_reducible assumption | omega) (fun _ => rfl) (fun v1544 ev1544 => ?_)
                  refine g_goto ?_
                  refine gG_pick [0, 1, 2, 3, 4] (l' := [(0, .ref 0), (1, .int a1), (2, .int a2), (3, .int v1543), (4, .int v1544)]) rfl ?_
                  exact ihL1527 v1543 v1544 (by first | with_reducible assumption | omega) (by first | with_reducible assumption | omega)
            · refine g_aload_n rfl ?_
              refine g_gfr hIH1517 sm_0 rfl ?_
              refine g_aload_n rfl ?_
              refine g_gfr hIH1517 sm_0 rfl ?_
              refine g_iload rfl ?_
              refine g_ialoadk hIH1517 sm_9 rfl (by first | with_reducible assumption | omega) ev1530 ?_
              refine g_baload hIH1517 sm_13 rfl (by first | with_reducible assumption | omega) (fun v1545 ev1545 lv1545 uv1545 => ?_)
              refine g_if_eq (fun c1546 => ?_) (fun c1546 => ?_)
              · refine g_iconst (by decide) (fun v1547 kv1547 => ?_)
                refine g_nop ?_
                refine g_istore (l' := [(0, .ref 0), (1, .int a1), (2, .int a2), (3, .int v1525), (4, .int v1526), (5, .int v1547)]) rfl rfl ?_
                refine g_iload_n rfl ?_
                refine g_aload_n rfl ?_
                refine g_iload rfl ?_
                refine g_invvi hIH1517 sm_0 rfl rfl rfl rfl (s_202 v1526 (by first | with_reducible assumption | omega) H1517 hIH1517 hJH1517) (fun v1550 H1548 r1549 => ?_)
                obtain ⟨rfl, bv1550⟩ := r1549
                refine g_iload_n rfl ?_
                refine g_if2_ne (fun c1551 => ?_) (fun c1551 => ?_)
                · refine g_iconst (by decide) (fun v1552 kv1552 => ?_)
                  refine g_nop ?_
                  refine g_iadd (by have := gz_any v1525; omega) (fun v1553 ev1553 => ?_)
                  refine g_istore_n (l' := [(0, .ref 0), (1, .int a1), (2, .int a2), (3, .int v1553), (4, .int v1526), (5, .int v1547)]) rfl rfl ?_
                  refine g_iinc (l' := (fun v1554 => [(0, .ref 0), (1, .int a1), (2, .int a2), (3, .int v1553), (4, .int v1554), (5, .int v1547)])) rfl rfl (by decide) (by first | with_reducible assumption | omega) (fun _ => rfl) (fun v1554 ev1554 => ?_)
                  refine g_goto ?_
                  refine gG_pick [0, 1, 2, 3, 4] (l' := [(0, .ref 0), (1, .int a1), (2, .int a2), (3, .int v1553), (4, .int v1554)]) rfl ?_
                  exact ihL1527 v1553 v1554 (by first | with_reducible assumption | omega) (by first | with_reducible assumption | omega)
                · refine g_iload rfl ?_
                  refine g_if_eq (fun c1555 => ?_) (fun c1555 => ?_)
                  · refine g_iconst (by decide) (fun v1556 kv1556 => ?_)
                    refine g_nop ?_
                    refine g_iadd (by have := gz_any v1525; omega) (fun v1557 ev1557 => ?_)
                    refine g_istore_n (l' := [(0, .ref 0), (1, .int a1), (2, .int a2), (3, .int v1557), (4, .int v1526), (5, .int v1547)]) rfl rfl ?_
                    refine g_iinc (l' := (fun v1558 => [(0, .ref 0), (1, .int a1), (2, .int a2), (3, .int v1557), (4, .int v1558), (5, .int v1547)])) rfl rfl (by decide) (by first | with_reducible assumption | omega) (fun _ => rfl) (fun v1558 ev1558 => ?_)
                    refine g_goto ?_
                    refine gG_pick [0, 1, 2, 3, 4] (l' := [(0, .ref 0), (1, .int a1), (2, .int a2), (3, .int v1557), (4, .int v1558)]) rfl ?_
                    exact ihL1527 v1557 v1558 (by first | with_reducible assumption | omega) (by first | with_reducible assumption | omega)
                  · exfalso; omega
              · refine g_nop ?_
                refine g_iconst (by decide) (fun v1559 kv1559 => ?_)
                refine g_goto ?_
                refine g_istore (l' := [(0, .ref 0), (1, .int a1), (2, .int a2), (3, .int v1525), (4, .int v1526), (5, .int v1559)]) rfl rfl ?_
                refine g_iload_n rfl ?_
                refine g_aload_n rfl ?_
                refine g_iload rfl ?_
                refine g_invvi hIH1517 sm_0 rfl rfl rfl rfl (s_202 v1526 (by first | with_reducible assumption | omega) H1517 hIH1517 hJH1517) (fun v1562 H1560 r1561 => ?_)
                obtain ⟨rfl, bv1562⟩ := r1561
                refine g_iload_n rfl ?_
                refine g_if2_ne (fun c1563 => ?_) (fun c1563 => ?_)
                · refine g_iconst (by decide) (fun v1564 kv1564 => ?_)
                  refine g_nop ?_
                  refine g_iadd (by have := gz_any v1525; omega) (fun v1565 ev1565 => ?_)
                  refine g_istore_n (l' := [(0, .ref 0), (1, .int a1), (2, .int a2), (3, .int v1565), (4, .int v1526), (5, .int v1559)]) rfl rfl ?_
                  refine g_iinc (l' := (fun v1566 => [(0, .ref 0), (1, .int a1), (2, .int a2), (3, .int v1565), (4, .int v1566), (5, .int v1559)])) rfl rfl (by decide) (by first | with_reducible assumption | omega) (fun _ => rfl) (fun v1566 ev1566 => ?_)
                  refine g_goto ?_
                  refine gG_pick [0, 1, 2, 3, 4] (l' := [(0, .ref 0), (1, .int a1), (2, .int a2), (3, .int v1565), (4, .int v1566)]) rfl ?_
                  exact ihL1527 v1565 v1566 (by first | with_reducible assumption | omega) (by first | with_reducible assumption | omega)
                · refine g_iload rfl ?_
                  refine g_if_eq (fun c1567 => ?_) (fun c1567 => ?_)
                  · exfalso; omega
                  · refine g_iconst (by decide) (fun v1568 kv1568 => ?_)
                    refine g_goto ?_
                    refine g_iadd' (fun v1569 ov1569 => ?_)
                    refine g_istore_n (l' := [(0, .ref 0), (1, .int a1), (2, .int a2), (3, .int v1569), (4, .int v1526), (5, .int v1559)]) rfl rfl ?_
                    refine g_iinc (l' := (fun v1570 => [(0, .ref 0), (1, .int a1), (2, .int a2), (3, .int v1569), (4, .int v1570), (5, .int v1559)])) rfl rfl (by decide) (by first | with_reducible assumption | omega) (fun _ => rfl) (fun v1570 ev1570 => ?_)
                    refine g_goto ?_
                    refine gG_pick [0, 1, 2, 3, 4] (l' := [(0, .ref 0), (1, .int a1), (2, .int a2), (3, .int v1569), (4, .int v1570)]) rfl ?_
                    exact ihL1527 v1569 v1570 (by first | with_reducible assumption | omega) (by first | with_reducible assumption | omega)
      exact L1527 _ v1523 v1524 (by first | with_reducible assumption | omega) (Nat.lt_succ_self _)
    · refine g_nop ?_
      refine g_iconst (by decide) (fun v1571 kv1571 => ?_)
      exact g_iret ⟨_, rfl, hIH1504, hJH1504, (e1505.symm.trans ek0_2), m1506⟩
set_option maxRecDepth 4000 in
set_option maxHeartbeats 4000000 in
/-- M.clash -/
theorem s_245 (a1 : Int32) (a2 : Int32) (a3 : Int32) (H : mzH) (hI : gI SM H) (hJ : JN H) : gCall 245 [.ref 0, .int a1, .int a2, .int a3] H (gRi (fun v H' => gI SM H' ∧ JN H' ∧ fZ H' 0 2 = fZ H 0 2 ∧ kpM H H')) := by
  obtain ⟨k0_2, ek0_2⟩ : ∃ z, z = fZ H 0 2 := ⟨_, rfl⟩
  have ik0_2 : k0_2.toInt = (fZ H 0 2).toInt := by rw [← ek0_2]
  have bk0_2 : 0 ≤ k0_2.toInt ∧ k0_2.toInt ≤ 900 := by rw [ek0_2]; exact fZ_of hI sm_0 rfl
  have mkfr : kpM H H := kpM_r
  refine gG_call [(0, .ref 0), (1, .int a1), (2, .int a2), (3, .int a3)] ⟨rfl, rfl, rfl, rfl, trivial⟩ ?_
  show gG 7 zB_245 (mzBlk zB_245 0) [(0, .ref 0), (1, .int a1), (2, .int a2), (3, .int a3)] [] H 0 0 _
  refine g_aload_n rfl ?_
  refine g_iconst (by decide) (fun v977 kv977 => ?_)
  refine g_pfi hI sm_0 rfl (gz_any _) (fun H978 eH978 hIH978 => ?_)
  have hJH978 : JN H978 := JN_sF eH978 hJ
  have e979 : k0_2 = fZ H978 0 2 := by rw [eH978, fZ_sF_ne (by decide)]; exact ek0_2
  have m980 : kpM H H978 := kpM_F mkfr eH978 (by first | with_reducible assumption | omega)
  refine g_iload_n rfl ?_
  refine g_invti rfl rfl rfl (s_206 a1 H978 hIH978 hJH978) (fun v983 H981 r982 => ?_)
  obtain ⟨rfl, bv983, p984⟩ := r982
  refine g_if_eq (fun c985 => ?_) (fun c985 => ?_)
  · refine g_iconst (by decide) (fun v986 kv986 => ?_)
    exact g_iret ⟨_, rfl, hIH978, hJH978, (e979.symm.trans ek0_2), m980⟩
  · refine g_iload_n rfl ?_
    refine g_if_lt (fun c987 => ?_) (fun c987 => ?_)
    · refine g_iconst (by decide) (fun v988 kv988 => ?_)
      exact g_iret ⟨_, rfl, hIH978, hJH978, (e979.symm.trans ek0_2), m980⟩
    · refine g_iload_n rfl ?_
      refine g_if_lt (fun c989 => ?_) (fun c989 => ?_)
      · refine g_iconst (by decide) (fun v990 kv990 => ?_)
        exact g_iret ⟨_, rfl, hIH978, hJH978, (e979.symm.trans ek0_2), m980⟩
      · refine g_iload_n rfl ?_
        refine g_iconst (by decide) (fun v991 kv991 => ?_)
        refine g_if2_le (fun c992 => ?_) (fun c992 => ?_)
        · refine g_aload_n rfl ?_
          refine g_invvv hIH978 sm_0 rfl rfl rfl rfl (s_200 H978 hIH978 hJH978) (fun H993 r994 => ?_)
          obtain ⟨hIH993, hJH993, w995, w996, m997, m998, p999⟩ := r994
          have e1000 : k0_2 = fZ H993 0 2 := e979.trans w995.symm
          have m1001 : kpM H H993 := kpM_t m980 m998
          refine g_iload_n rfl ?_
          refine g_istore (l' := [(0, .ref 0), (1, .int a1), (2, .int a2), (3, .int a3), (4, .int a2)]) rfl rfl ?_
          refine g_iconst (by decide) (fun v1002 kv1002 => ?_)
          refine g_istore (l' := [(0, .ref 0), (1, .int a1), (2, .int a2), (3, .int a3), (4, .int a2), (5, .int v1002)]) rfl rfl ?_
          refine g_nop ?_
          have L1005 : ∀ (N : Nat) (v1003 : Int32) (v1004 : Int32), (0 ≤ v1003.toInt ∧ v1003.toInt ≤ 2147483647) → (0 ≤ v1004.toInt ∧ v1004.toInt ≤ 60) → (60 - v1004.toInt).toNat < N → gG 7 zB_245 (mzBlk zB_245 3) [(0, .ref 0), (1, .int a1), (2, .int a2), (3, .int a3), (4, .int v1003), (5, .int v1004)] [] H993 0 0 (gRi (fun v H' => gI SM H' ∧ JN H' ∧ fZ H' 0 2 = fZ H 0 2 ∧ kpM H H')) := by
            intro N
            induction N with
            | zero => intro v1003 v1004 bv1003 bv1004 hmL1005; exact absurd hmL1005 (Nat.not_lt_zero _)
            | succ N ihL1005 =>
              intro v1003 v1004 bv1003 bv1004 hmL1005
              refine g_iload rfl ?_
              refine g_aload_n rfl ?_
              refine g_gfi hIH993 sm_0 rfl (fun v1006 ev1006 lv1006 uv1006 => ?_)
              refine g_if2_ge (fun c1007 => ?_) (fun c1007 => ?_)
              · refine g_bipush (by decide) (fun v1008 kv1008 => ?_)
                exact g_iret ⟨_, rfl, hIH993, (JM_n hJH993), (e1000.symm.trans ek0_2), m1001⟩
              · refine g_aload_n rfl ?_
                refine g_gfr hIH993 sm_0 rfl ?_
                refine g_iload rfl ?_
                refine g_iaload hIH993 sm_19 rfl (by first | with_reducible assumption | omega) (fun v1009 ev1009 lv1009 uv1009 => ?_)
                refine g_istore (l' := [(0, .ref 0), (1, .int a1), (2, .int a2), (3, .int a3), (4, .int v1003), (5, .int v1004), (6, .int v1009)]) rfl rfl ?_
                refine g_aload_n rfl ?_
                refine g_iload rfl ?_
                refine g_iconst (by decide) (fun v1010 kv1010 => ?_)
                refine g_invvi hIH993 sm_0 rfl rfl rfl rfl (s_182 v1009 (by first | with_reducible assumption | omega) v1010 (by first | with_reducible assumption | omega) H993 hIH993 (JM_n hJH993)) (fun v1013 H1011 r1012 => ?_)
                obtain ⟨rfl, p1014⟩ := r1012
                have tv1013 : v1013 = aZ H993 2 (69 + 5 * v1009.toInt + 1).toNat := by rw [p1014, kv1010]
                have qv1013 := JN_w1 (JM_n hJH993) (by first | with_reducible assumption | omega) tv1013
                refine g_bipush (by decide) (fun v1015 kv1015 => ?_)
                refine g_if2_ne (fun c1016 => ?_) (fun c1016 => ?_)
                · refine g_iinc (l' := (fun v1017 => [(0, .ref 0), (1, .int a1), (2, .int a2), (3, .int a3), (4, .int v1003), (5, .int v1017), (6, .int v1009)])) rfl rfl (by decide) (by first | with_reducible assumption | omega) (fun _ => rfl) (fun v1017 ev1017 => ?_)
                  refine g_goto ?_
                  refine gG_pick [0, 1, 2, 3, 4, 5] (l' := [(0, .ref 0), (1, .int a1), (2, .int a2), (3, .int a3), (4, .int v1003), (5, .int v1017)]) rfl ?_
                  exact ihL1005 v1003 v1017 (by have := gz_any v1003; omega) (by first | with_reducible assumption | omega) (by first | with_reducible assumption | omega)
                · refine g_aload_n rfl ?_
                  refine g_iload rfl ?_
                  refine g_iconst (by decide) (fun v1018 kv1018 => ?_)
                  refine g_invvi hIH993 sm_0 rfl rfl rfl rfl (s_182 v1009 (by first | with_reducible assumption | omega) v1018 (by first | with_reducible assumption | omega) H993 hIH993 (JM_n hJH993)) (fun v1021 H1019 r1020 => ?_)
                  obtain ⟨rfl, p1022⟩ := r1020
                  have tv1021 : v1021 = aZ H993 2 (69 + 5 * v1009.toInt + 2).toNat := by rw [p1022, kv1018]
                  have qv1021 := JN_w2 (JM_n hJH993) (by first | with_reducible assumption | omega) tv1021
                  refine g_iload_n rfl ?_
                  refine g_if2_ne (fun c1023 => ?_) (fun c1023 => ?_)
                  · refine g_iinc (l' := (fun v1024 => [(0, .ref 0), (1, .int a1), (2, .int a2), (3, .int a3), (4, .int v1003), (5, .int v1024), (6, .int v1009)])) rfl rfl (by decide) (by first | with_reducible assumption | omega) (fun _ => rfl) (fun v1024 ev1024 => ?_)
                    refine g_goto ?_
                    refine gG_pick [0, 1, 2, 3, 4, 5] (l' := [(0, .ref 0), (1, .int a1), (2, .int a2), (3, .int a3), (4, .int v1003), (5, .int v1024)]) rfl ?_
                    exact ihL1005 v1003 v1024 (by have := gz_any v1003; omega) (by first | with_reducible assumption | omega) (by first | with_reducible assumption | omega)
                  · refine g_aload_n rfl ?_
                    refine g_gfr hIH993 sm_0 rfl ?_
                    refine g_iload rfl ?_
                    refine g_iaload hIH993 sm_20 rfl (by first | with_reducible assumption | omega) (fun v1025 ev1025 lv1025 uv1025 => ?_)
                    refine g_bipush (by decide) (fun v1026 kv1026 => ?_)
                    refine g_if2_eq (fun c1027 => ?_) (fun c1027 => ?_)
                    · refine g_iload rfl ?_
                      refine g_if_ne (fun c1028 => ?_) (fun c1028 => ?_)
                      · refine g_iinc (l' := (fun v1029 => [(0, .ref 0), (1, .int a1), (2, .int a2), (3, .int a3), (4, .int v1029), (5, .int v1004), (6, .int v1009)])) rfl rfl (by decide) (by have := gz_any v1003; omega) (fun _ => rfl) (fun v1029 ev1029 => ?_)
                        refine g_nop ?_
                        refine g_iinc (l' := (fun v1030 => [(0, .ref 0), (1, .int a1), (2, .int a2), (3, .int a3), (4, .int v1029), (5, .int v1030), (6, .int v1009)])) rfl rfl (by decide) (by first | with_reducible assumption | omega) (fun _ => rfl) (fun v1030 ev1030 => ?_)
                        refine g_goto ?_
                        refine gG_pick [0, 1, 2, 3, 4, 5] (l' := [(0, .ref 0), (1, .int a1), (2, .int a2), (3, .int a3), (4, .int v1029), (5, .int v1030)]) rfl ?_
                        exact ihL1005 v1029 v1030 (by have := gz_any v1029; omega) (by first | with_reducible assumption | omega) (by first | with_reducible assumption | omega)
                      · refine g_iload_n rfl ?_
                        refine g_if_ne (fun c1031 => ?_) (fun c1031 => ?_)
                        · refine g_iload_n rfl ?_
                          refine g_iconst (by decide) (fun v1032 kv1032 => ?_)
                          refine g_if2_ne (fun c1033 => ?_) (fun c1033 => ?_)
                          · refine g_iload rfl ?_
                            refine g_nop ?_
                            exact g_iret ⟨_, rfl, hIH993, (JM_n hJH993), (e1000.symm.trans ek0_2), m1001⟩
                          · refine g_aload_n rfl ?_
                            refine g_iload rfl ?_
                            refine g_iconst (by decide) (fun v1034 kv1034 => ?_)
                            refine g_invvi hIH993 sm_0 rfl rfl rfl rfl (s_182 v1009 (by first | with_reducible assumption | omega) v1034 (by first | with_reducible assumption | omega) H993 hIH993 (JM_n hJH993)) (fun v1037 H1035 r1036 => ?_)
                            obtain ⟨rfl, p1038⟩ := r1036
                            have tv1037 : v1037 = aZ H993 2 (69 + 5 * v1009.toInt + 0).toNat := by rw [p1038, kv1034]
                            refine g_goto ?_
                            exact g_iret ⟨_, rfl, hIH993, (JM_n hJH993), (e1000.symm.trans ek0_2), m1001⟩
                        · refine g_aload_n rfl ?_
                          refine g_iload rfl ?_
                          refine g_iconst (by decide) (fun v1039 kv1039 => ?_)
                          refine g_invvi hIH993 sm_0 rfl rfl rfl rfl (s_182 v1009 (by first | with_reducible assumption | omega) v1039 (by first | with_reducible assumption | omega) H993 hIH993 (JM_n hJH993)) (fun v1042 H1040 r1041 => ?_)
                          obtain ⟨rfl, p1043⟩ := r1041
                          have tv1042 : v1042 = aZ H993 2 (69 + 5 * v1009.toInt + 3).toNat := by rw [p1043, kv1039]
                          have qv1042 := JN_w3 (JM_n hJH993) (by first | with_reducible assumption | omega) tv1013 tv1042
                          refine g_goto ?_
                          exact g_iret ⟨_, rfl, hIH993, (JM_n hJH993), (e1000.symm.trans ek0_2), m1001⟩
                    · refine g_aload_n rfl ?_
                      refine g_gfr hIH993 sm_0 rfl ?_
                      refine g_iload rfl ?_
                      refine g_ialoadk hIH993 sm_20 rfl (by first | with_reducible assumption | omega) ev1025 ?_
                      refine g_bipush (by decide) (fun v1044 kv1044 => ?_)
                      refine g_if2_eq (fun c1045 => ?_) (fun c1045 => ?_)
                      · refine g_iload rfl ?_
                        refine g_if_ne (fun c1046 => ?_) (fun c1046 => ?_)
                        · refine g_iinc (l' := (fun v1047 => [(0, .ref 0), (1, .int a1), (2, .int a2), (3, .int a3), (4, .int v1047), (5, .int v1004), (6, .int v1009)])) rfl rfl (by decide) (by have := gz_any v1003; omega) (fun _ => rfl) (fun v1047 ev1047 => ?_)
                          refine g_nop ?_
                          refine g_iinc (l' := (fun v1048 => [(0, .ref 0), (1, .int a1), (2, .int a2), (3, .int a3), (4, .int v1047), (5, .int v1048), (6, .int v1009)])) rfl rfl (by decide) (by first | with_reducible assumption | omega) (fun _ => rfl) (fun v1048 ev1048 => ?_)
                          refine g_goto ?_
                          refine gG_pick [0, 1, 2, 3, 4, 5] (l' := [(0, .ref 0), (1, .int a1), (2, .int a2), (3, .int a3), (4, .int v1047), (5, .int v1048)]) rfl ?_
                          exact ihL1005 v1047 v1048 (by have := gz_any v1047; omega) (by first | with_reducible assumption | omega) (by first | with_reducible assumption | omega)
                        · refine g_iload_n rfl ?_
                          refine g_if_ne (fun c1049 => ?_) (fun c1049 => ?_)
                          · refine g_iload_n rfl ?_
                            refine g_iconst (by decide) (fun v1050 kv1050 => ?_)
                            refine g_if2_ne (fun c1051 => ?_) (fun c1051 => ?_)
                            · refine g_iload rfl ?_
                              refine g_nop ?_
                              exact g_iret ⟨_, rfl, hIH993, (JM_n hJH993), (e1000.symm.trans ek0_2), m1001⟩
                            · refine g_aload_n rfl ?_
                              refine g_iload rfl ?_
                              refine g_iconst (by decide) (fun v1052 kv1052 => ?_)
                              refine g_invvi hIH993 sm_0 rfl rfl rfl rfl (s_182 v1009 (by first | with_reducible assumption | omega) v1052 (by first | with_reducible assumption | omega) H993 hIH993 (JM_n hJH993)) (fun v1055 H1053 r1054 => ?_)
                              obtain ⟨rfl, p1056⟩ := r1054
                              have tv1055 : v1055 = aZ H993 2 (69 + 5 * v1009.toInt + 0).toNat := by rw [p1056, kv1052]
                              refine g_goto ?_
                              exact g_iret ⟨_, rfl, hIH993, (JM_n hJH993), (e1000.symm.trans ek0_2), m1001⟩
                          · refine g_aload_n rfl ?_
                            refine g_iload rfl ?_
                            refine g_iconst (by decide) (fun v1057 kv1057 => ?_)
                            refine g_invvi hIH993 sm_0 rfl rfl rfl rfl (s_182 v1009 (by first | with_reducible assumption | omega) v1057 (by first | with_reducible assumption | omega) H993 hIH993 (JM_n hJH993)) (fun v1060 H1058 r1059 => ?_)
                            obtain ⟨rfl, p1061⟩ := r1059
                            have tv1060 : v1060 = aZ H993 2 (69 + 5 * v1009.toInt + 3).toNat := by rw [p1061, kv1057]
                            have qv1060 := JN_w3 (JM_n hJH993) (by first | with_reducible assumption | omega) tv1013 tv1060
                            refine g_goto ?_
                            exact g_iret ⟨_, rfl, hIH993, (JM_n hJH993), (e1000.symm.trans ek0_2), m1001⟩
                      · refine g_goto ?_
                        refine g_iinc (l' := (fun v1062 => [(0, .ref 0), (1, .int a1), (2, .int a2), (3, .int a3), (4, .int v1003), (5, .int v1062), (6, .int v1009)])) rfl rfl (by decide) (by first | with_reducible assumption | omega) (fun _ => rfl) (fun v1062 ev1062 => ?_)
                        refine g_goto ?_
                        refine gG_pick [0, 1, 2, 3, 4, 5] (l' := [(0, .ref 0), (1, .int a1), (2, .int a2), (3, .int a3), (4, .int v1003), (5, .int v1062)]) rfl ?_
                        exact ihL1005 v1003 v1062 (by have := gz_any v1003; omega) (by first | with_reducible assumption | omega) (by first | with_reducible assumption | omega)
          exact L1005 _ a2 v1002 (by have := gz_any a2; omega) (by first | with_reducible assumption | omega) (Nat.lt_succ_self _)
        · refine g_nop ?_
          refine g_iconst (by decide) (fun v1063 kv1063 => ?_)
          exact g_iret ⟨_, rfl, hIH978, hJH978, (e979.symm.trans ek0_2), m980⟩
set_option maxRecDepth 4000 in
set_option maxHeartbeats 4000000 in
/-- M.soonest -/
theorem s_246 (a1 : Int32) (a2 : Int32) (a3 : Int32) (H : mzH) (hI : gI SM H) (hJ : JN H) : gCall 246 [.ref 0, .int a1, .int a2, .int a3] H (gRi (fun v H' => gI SM H' ∧ JN H' ∧ fZ H' 0 2 = fZ H 0 2 ∧ kpM H H')) := by
  obtain ⟨k0_2, ek0_2⟩ : ∃ z, z = fZ H 0 2 := ⟨_, rfl⟩
  have ik0_2 : k0_2.toInt = (fZ H 0 2).toInt := by rw [← ek0_2]
  have bk0_2 : 0 ≤ k0_2.toInt ∧ k0_2.toInt ≤ 900 := by rw [ek0_2]; exact fZ_of hI sm_0 rfl
  have mkfr : kpM H H := kpM_r
  refine gG_call [(0, .ref 0), (1, .int a1), (2, .int a2), (3, .int a3)] ⟨rfl, rfl, rfl, rfl, trivial⟩ ?_
  show gG 7 zB_246 (mzBlk zB_246 0) [(0, .ref 0), (1, .int a1), (2, .int a2), (3, .int a3)] [] H 0 0 _
  refine g_aload_n rfl ?_
  refine g_iconst (by decide) (fun v189 kv189 => ?_)
  refine g_pfi hI sm_0 rfl (gz_any _) (fun H190 eH190 hIH190 => ?_)
  have hJH190 : JN H190 := JN_sF eH190 hJ
  have e191 : k0_2 = fZ H190 0 2 := by rw [eH190, fZ_sF_ne (by decide)]; exact ek0_2
  have m192 : kpM H H190 := kpM_F mkfr eH190 (by first | with_reducible assumption | omega)
  refine g_iload_n rfl ?_
  refine g_invti rfl rfl rfl (s_206 a1 H190 hIH190 hJH190) (fun v195 H193 r194 => ?_)
  obtain ⟨rfl, bv195, p196⟩ := r194
  refine g_if_eq (fun c197 => ?_) (fun c197 => ?_)
  · refine g_iconst (by decide) (fun v198 kv198 => ?_)
    exact g_iret ⟨_, rfl, hIH190, hJH190, (e191.symm.trans ek0_2), m192⟩
  · refine g_iload_n rfl ?_
    refine g_invti rfl rfl rfl (s_207 a2 H190 hIH190 hJH190) (fun v201 H199 r200 => ?_)
    obtain ⟨rfl, bv201⟩ := r200
    refine g_if_eq (fun c202 => ?_) (fun c202 => ?_)
    · refine g_iconst (by decide) (fun v203 kv203 => ?_)
      exact g_iret ⟨_, rfl, hIH190, hJH190, (e191.symm.trans ek0_2), m192⟩
    · refine g_aload_n rfl ?_
      refine g_iload_n rfl ?_
      refine g_invvi hIH190 sm_0 rfl rfl rfl rfl (s_211 a3 H190 hIH190 hJH190) (fun v206 H204 r205 => ?_)
      obtain ⟨rfl, bv206, p207⟩ := r205
      refine g_if_ne (fun c208 => ?_) (fun c208 => ?_)
      · refine g_aload_n rfl ?_
        refine g_iload_n rfl ?_
        refine g_invvv hIH190 sm_0 rfl rfl rfl rfl (s_201 a2 H190 hIH190 hJH190) (fun H209 r210 => ?_)
        obtain ⟨hIH209, hJH209, w211, m212⟩ := r210
        have e213 : k0_2 = fZ H209 0 2 := e191.trans w211.symm
        have m214 : kpM H H209 := kpM_t m192 m212
        refine g_aload_n rfl ?_
        refine g_iload_n rfl ?_
        refine g_invvi hIH209 sm_0 rfl rfl rfl rfl (s_202 a1 (by first | with_reducible assumption | omega) H209 hIH209 hJH209) (fun v217 H215 r216 => ?_)
        obtain ⟨rfl, bv217⟩ := r216
        refine g_istore (l' := [(0, .ref 0), (1, .int a1), (2, .int a2), (3, .int a3), (4, .int v217)]) rfl rfl ?_
        refine g_iload rfl ?_
        refine g_if_lt (fun c218 => ?_) (fun c218 => ?_)
        · refine g_iload rfl ?_
          refine g_if_ge (fun c219 => ?_) (fun c219 => ?_)
          · exfalso; omega
          · refine g_iload rfl ?_
            refine g_goto ?_
            exact g_iret ⟨_, rfl, hIH209, (JM_n hJH209), (e213.symm.trans ek0_2), m214⟩
        · refine g_iload rfl ?_
          refine g_iload_n rfl ?_
          refine g_if2_ne (fun c220 => ?_) (fun c220 => ?_)
          · refine g_aload_n rfl ?_
            refine g_gfr hIH209 sm_0 rfl ?_
            refine g_bipush (by decide) (fun v221 kv221 => ?_)
            refine g_iload rfl ?_
            refine g_imulk' (n := 8) kv221 (by first | with_reducible assumption | omega) (fun v222 ev222 => ?_)
            refine g_iload_n rfl ?_
            refine g_iadd (by first | with_reducible assumption | omega) (fun v223 ev223 => ?_)
            refine g_iaload hIH209 sm_6 rfl (by first | with_reducible assumption | omega) (fun v224 ev224 lv224 uv224 => ?_)
            refine g_istore (l' := [(0, .ref 0), (1, .int a1), (2, .int a2), (3, .int a3), (4, .int v217), (5, .int v224)]) rfl rfl ?_
            refine g_iload rfl ?_
            refine g_ldc (by decide) (fun v225 kv225 => ?_)
            refine g_if2_lt (fun c226 => ?_) (fun c226 => ?_)
            · refine g_aload_n rfl ?_
              refine g_gfr hIH209 sm_0 rfl ?_
              refine g_aload_n rfl ?_
              refine g_iload_n rfl ?_
              refine g_invvi hIH209 sm_0 rfl rfl rfl rfl (s_186 a1 (by first | with_reducible assumption | omega) H209 hIH209 hJH209) (fun v229 H227 r228 => ?_)
              obtain ⟨rfl, bv229⟩ := r228
              refine g_iaload hIH209 sm_11 rfl (by first | with_reducible assumption | omega) (fun v230 ev230 lv230 uv230 => ?_)
              refine g_iload rfl ?_
              refine g_iadd' (fun v231 ov231 => ?_)
              refine g_istore (l' := [(0, .ref 0), (1, .int a1), (2, .int a2), (3, .int a3), (4, .int v217), (5, .int v224), (6, .int v231)]) rfl rfl ?_
              refine g_iload rfl ?_
              refine g_iload_n rfl ?_
              refine g_if2_le (fun c232 => ?_) (fun c232 => ?_)
              · refine g_iload_n rfl ?_
                refine g_nop ?_
                exact g_iret ⟨_, rfl, hIH209, (JM_n hJH209), (e213.symm.trans ek0_2), m214⟩
              · refine g_iload rfl ?_
                refine g_goto ?_
                exact g_iret ⟨_, rfl, hIH209, (JM_n hJH209), (e213.symm.trans ek0_2), m214⟩
            · refine g_bipush (by decide) (fun v233 kv233 => ?_)
              exact g_iret ⟨_, rfl, hIH209, (JM_n hJH209), (e213.symm.trans ek0_2), m214⟩
          · refine g_nop ?_
            refine g_iload rfl ?_
            refine g_if_ge (fun c234 => ?_) (fun c234 => ?_)
            · refine g_iload_n rfl ?_
              refine g_nop ?_
              exact g_iret ⟨_, rfl, hIH209, (JM_n hJH209), (e213.symm.trans ek0_2), m214⟩
            · exfalso; omega
      · refine g_nop ?_
        refine g_iconst (by decide) (fun v235 kv235 => ?_)
        exact g_iret ⟨_, rfl, hIH190, hJH190, (e191.symm.trans ek0_2), m192⟩
set_option maxRecDepth 4000 in
set_option maxHeartbeats 4000000 in
/-- M.lost -/
theorem s_247 (a1 : Int32) (a2 : Int32) (a3 : Int32) (H : mzH) (hI : gI SM H) (hJ : JN H) : gCall 247 [.ref 0, .int a1, .int a2, .int a3] H (gRi (fun v H' => gI SM H' ∧ JN H' ∧ fZ H' 0 2 = fZ H 0 2 ∧ kpM H H')) := by
  obtain ⟨k0_2, ek0_2⟩ : ∃ z, z = fZ H 0 2 := ⟨_, rfl⟩
  have ik0_2 : k0_2.toInt = (fZ H 0 2).toInt := by rw [← ek0_2]
  have bk0_2 : 0 ≤ k0_2.toInt ∧ k0_2.toInt ≤ 900 := by rw [ek0_2]; exact fZ_of hI sm_0 rfl
  have mkfr : kpM H H := kpM_r
  refine gG_call [(0, .ref 0), (1, .int a1), (2, .int a2), (3, .int a3)] ⟨rfl, rfl, rfl, rfl, trivial⟩ ?_
  show gG 6 zB_247 (mzBlk zB_247 0) [(0, .ref 0), (1, .int a1), (2, .int a2), (3, .int a3)] [] H 0 0 _
  refine g_aload_n rfl ?_
  refine g_iconst (by decide) (fun v361 kv361 => ?_)
  refine g_pfi hI sm_0 rfl (gz_any _) (fun H362 eH362 hIH362 => ?_)
  have hJH362 : JN H362 := JN_sF eH362 hJ
  have e363 : k0_2 = fZ H362 0 2 := by rw [eH362, fZ_sF_ne (by decide)]; exact ek0_2
  have m364 : kpM H H362 := kpM_F mkfr eH362 (by first | with_reducible assumption | omega)
  refine g_iload_n rfl ?_
  refine g_invti rfl rfl rfl (s_207 a1 H362 hIH362 hJH362) (fun v367 H365 r366 => ?_)
  obtain ⟨rfl, bv367⟩ := r366
  refine g_if_eq (fun c368 => ?_) (fun c368 => ?_)
  · refine g_iconst (by decide) (fun v369 kv369 => ?_)
    exact g_iret ⟨_, rfl, hIH362, hJH362, (e363.symm.trans ek0_2), m364⟩
  · refine g_iload_n rfl ?_
    refine g_invti rfl rfl rfl (s_207 a2 H362 hIH362 hJH362) (fun v372 H370 r371 => ?_)
    obtain ⟨rfl, bv372⟩ := r371
    refine g_if_eq (fun c373 => ?_) (fun c373 => ?_)
    · refine g_iconst (by decide) (fun v374 kv374 => ?_)
      exact g_iret ⟨_, rfl, hIH362, hJH362, (e363.symm.trans ek0_2), m364⟩
    · refine g_iload_n rfl ?_
      refine g_if_ge (fun c375 => ?_) (fun c375 => ?_)
      · refine g_aload_n rfl ?_
        refine g_iload_n rfl ?_
        refine g_invvv hIH362 sm_0 rfl rfl rfl rfl (s_201 a1 H362 hIH362 hJH362) (fun H376 r377 => ?_)
        obtain ⟨hIH376, hJH376, w378, m379⟩ := r377
        have e380 : k0_2 = fZ H376 0 2 := e363.trans w378.symm
        have m381 : kpM H H376 := kpM_t m364 m379
        refine g_iload_n rfl ?_
        refine g_istore (l' := [(0, .ref 0), (1, .int a1), (2, .int a2), (3, .int a3), (4, .int a3)]) rfl rfl ?_
        refine g_iconst (by decide) (fun v382 kv382 => ?_)
        refine g_istore (l' := [(0, .ref 0), (1, .int a1), (2, .int a2), (3, .int a3), (4, .int a3), (5, .int v382)]) rfl rfl ?_
        refine g_nop ?_
        have L385 : ∀ (N : Nat) (v383 : Int32) (v384 : Int32), (0 ≤ v383.toInt ∧ v383.toInt ≤ 2147483647) → (0 ≤ v384.toInt ∧ v384.toInt ≤ 40) → (40 - v384.toInt).toNat < N → gG 6 zB_247 (mzBlk zB_247 3) [(0, .ref 0), (1, .int a1), (2, .int a2), (3, .int a3), (4, .int v383), (5, .int v384)] [] H376 0 0 (gRi (fun v H' => gI SM H' ∧ JN H' ∧ fZ H' 0 2 = fZ H 0 2 ∧ kpM H H')) := by
          intro N
          induction N with
          | zero => intro v383 v384 bv383 bv384 hmL385; exact absurd hmL385 (Nat.not_lt_zero _)
          | succ N ihL385 =>
            intro v383 v384 bv383 bv384 hmL385
            refine g_iload rfl ?_
            refine g_bipush (by decide) (fun v386 kv386 => ?_)
            refine g_if2_ge (fun c387 => ?_) (fun c387 => ?_)
            · refine g_bipush (by decide) (fun v388 kv388 => ?_)
              exact g_iret ⟨_, rfl, hIH376, (JM_n hJH376), (e380.symm.trans ek0_2), m381⟩
            · refine g_aload_n rfl ?_
              refine g_iload rfl ?_
              refine g_invvi hIH376 sm_0 rfl rfl rfl rfl (s_202 v384 (by first | with_reducible assumption | omega) H376 hIH376 hJH376) (fun v391 H389 r390 => ?_)
              obtain ⟨rfl, bv391⟩ := r390
              refine g_if_lt (fun c392 => ?_) (fun c392 => ?_)
              · refine g_iinc (l' := (fun v393 => [(0, .ref 0), (1, .int a1), (2, .int a2), (3, .int a3), (4, .int v383), (5, .int v393)])) rfl rfl (by decide) (by first | with_reducible assumption | omega) (fun _ => rfl) (fun v393 ev393 => ?_)
                refine g_goto ?_
                exact ihL385 v383 v393 (by have := gz_any v383; omega) (by first | with_reducible assumption | omega) (by first | with_reducible assumption | omega)
              · refine g_iload_n rfl ?_
                refine g_aload_n rfl ?_
                refine g_gfr hIH376 sm_0 rfl ?_
                refine g_aload_n rfl ?_
                refine g_iload rfl ?_
                refine g_invvi hIH376 sm_0 rfl rfl rfl rfl (s_186 v384 (by first | with_reducible assumption | omega) H376 hIH376 hJH376) (fun v396 H394 r395 => ?_)
                obtain ⟨rfl, bv396⟩ := r395
                refine g_iaload hIH376 sm_11 rfl (by first | with_reducible assumption | omega) (fun v397 ev397 lv397 uv397 => ?_)
                refine g_isub' (fun v398 ov398 => ?_)
                refine g_iload_n rfl ?_
                refine g_if2_ge (fun c399 => ?_) (fun c399 => ?_)
                · refine g_iload rfl ?_
                  refine g_if_ne (fun c400 => ?_) (fun c400 => ?_)
                  · refine g_iinc (l' := (fun v401 => [(0, .ref 0), (1, .int a1), (2, .int a2), (3, .int a3), (4, .int v401), (5, .int v384)])) rfl rfl (by decide) (by have := gz_any v383; omega) (fun _ => rfl) (fun v401 ev401 => ?_)
                    refine g_nop ?_
                    refine g_iinc (l' := (fun v402 => [(0, .ref 0), (1, .int a1), (2, .int a2), (3, .int a3), (4, .int v401), (5, .int v402)])) rfl rfl (by decide) (by first | with_reducible assumption | omega) (fun _ => rfl) (fun v402 ev402 => ?_)
                    refine g_goto ?_
                    exact ihL385 v401 v402 (by have := gz_any v401; omega) (by first | with_reducible assumption | omega) (by first | with_reducible assumption | omega)
                  · refine g_iload rfl ?_
                    exact g_iret ⟨_, rfl, hIH376, (JM_n hJH376), (e380.symm.trans ek0_2), m381⟩
                · refine g_goto ?_
                  refine g_iinc (l' := (fun v403 => [(0, .ref 0), (1, .int a1), (2, .int a2), (3, .int a3), (4, .int v383), (5, .int v403)])) rfl rfl (by decide) (by first | with_reducible assumption | omega) (fun _ => rfl) (fun v403 ev403 => ?_)
                  refine g_goto ?_
                  exact ihL385 v383 v403 (by have := gz_any v383; omega) (by first | with_reducible assumption | omega) (by first | with_reducible assumption | omega)
        exact L385 _ a3 v382 (by have := gz_any a3; omega) (by first | with_reducible assumption | omega) (Nat.lt_succ_self _)
      · refine g_nop ?_
        refine g_iconst (by decide) (fun v404 kv404 => ?_)
        exact g_iret ⟨_, rfl, hIH362, hJH362, (e363.symm.trans ek0_2), m364⟩
set_option maxRecDepth 4000 in
set_option maxHeartbeats 4000000 in
/-- M.ifSwapped -/
theorem s_248 (a1 : Int32) (a2 : Int32) (a3 : Int32) (H : mzH) (hI : gI SM H) (hJ : JN H) : gCall 248 [.ref 0, .int a1, .int a2, .int a3] H (gRi (fun v H' => gI SM H' ∧ JN H' ∧ fZ H' 0 2 = fZ H 0 2 ∧ kpM H H')) := by
  obtain ⟨k0_2, ek0_2⟩ : ∃ z, z = fZ H 0 2 := ⟨_, rfl⟩
  have ik0_2 : k0_2.toInt = (fZ H 0 2).toInt := by rw [← ek0_2]
  have bk0_2 : 0 ≤ k0_2.toInt ∧ k0_2.toInt ≤ 900 := by rw [ek0_2]; exact fZ_of hI sm_0 rfl
  have mkfr : kpM H H := kpM_r
  refine gG_call [(0, .ref 0), (1, .int a1), (2, .int a2), (3, .int a3)] ⟨rfl, rfl, rfl, rfl, trivial⟩ ?_
  show gG 5 zB_248 (mzBlk zB_248 0) [(0, .ref 0), (1, .int a1), (2, .int a2), (3, .int a3)] [] H 0 0 _
  refine g_aload_n rfl ?_
  refine g_iconst (by decide) (fun v505 kv505 => ?_)
  refine g_pfi hI sm_0 rfl (gz_any _) (fun H506 eH506 hIH506 => ?_)
  have hJH506 : JN H506 := JN_sF eH506 hJ
  have e507 : k0_2 = fZ H506 0 2 := by rw [eH506, fZ_sF_ne (by decide)]; exact ek0_2
  have m508 : kpM H H506 := kpM_F mkfr eH506 (by first | with_reducible assumption | omega)
  refine g_iload_n rfl ?_
  refine g_if_lt (fun c509 => ?_) (fun c509 => ?_)
  · refine g_iconst (by decide) (fun v510 kv510 => ?_)
    refine g_nop ?_
    refine g_istore (l' := [(0, .ref 0), (1, .int a1), (2, .int a2), (3, .int a3), (4, .int v510)]) rfl rfl ?_
    refine g_iload rfl ?_
    refine g_if_ne (fun c511 => ?_) (fun c511 => ?_)
    · exfalso; omega
    · refine g_sipush (by decide) (fun v512 kv512 => ?_)
      exact g_iret ⟨_, rfl, hIH506, hJH506, (e507.symm.trans ek0_2), m508⟩
  · refine g_iload_n rfl ?_
    refine g_aload_n rfl ?_
    refine g_invvi hIH506 sm_0 rfl rfl rfl rfl (s_181 H506 hIH506 hJH506) (fun v515 H513 r514 => ?_)
    obtain ⟨rfl, bv515, p516⟩ := r514
    refine g_if2_ge (fun c517 => ?_) (fun c517 => ?_)
    · refine g_iconst (by decide) (fun v518 kv518 => ?_)
      refine g_nop ?_
      refine g_istore (l' := [(0, .ref 0), (1, .int a1), (2, .int a2), (3, .int a3), (4, .int v518)]) rfl rfl ?_
      refine g_iload rfl ?_
      refine g_if_ne (fun c519 => ?_) (fun c519 => ?_)
      · exfalso; omega
      · refine g_sipush (by decide) (fun v520 kv520 => ?_)
        exact g_iret ⟨_, rfl, hIH506, hJH506, (e507.symm.trans ek0_2), m508⟩
    · refine g_iload_n rfl ?_
      refine g_if_lt (fun c521 => ?_) (fun c521 => ?_)
      · refine g_iconst (by decide) (fun v522 kv522 => ?_)
        refine g_nop ?_
        refine g_istore (l' := [(0, .ref 0), (1, .int a1), (2, .int a2), (3, .int a3), (4, .int v522)]) rfl rfl ?_
        refine g_iload rfl ?_
        refine g_if_ne (fun c523 => ?_) (fun c523 => ?_)
        · exfalso; omega
        · refine g_sipush (by decide) (fun v524 kv524 => ?_)
          exact g_iret ⟨_, rfl, hIH506, hJH506, (e507.symm.trans ek0_2), m508⟩
      · refine g_iload_n rfl ?_
        refine g_aload_n rfl ?_
        refine g_invvi hIH506 sm_0 rfl rfl rfl rfl (s_181 H506 hIH506 hJH506) (fun v527 H525 r526 => ?_)
        obtain ⟨rfl, bv527, p528⟩ := r526
        refine g_if2_ge (fun c529 => ?_) (fun c529 => ?_)
        · refine g_iconst (by decide) (fun v530 kv530 => ?_)
          refine g_nop ?_
          refine g_istore (l' := [(0, .ref 0), (1, .int a1), (2, .int a2), (3, .int a3), (4, .int v530)]) rfl rfl ?_
          refine g_iload rfl ?_
          refine g_if_ne (fun c531 => ?_) (fun c531 => ?_)
          · exfalso; omega
          · refine g_sipush (by decide) (fun v532 kv532 => ?_)
            exact g_iret ⟨_, rfl, hIH506, hJH506, (e507.symm.trans ek0_2), m508⟩
        · refine g_iload_n rfl ?_
          refine g_iload_n rfl ?_
          refine g_if2_eq (fun c533 => ?_) (fun c533 => ?_)
          · refine g_iconst (by decide) (fun v534 kv534 => ?_)
            refine g_nop ?_
            refine g_istore (l' := [(0, .ref 0), (1, .int a1), (2, .int a2), (3, .int a3), (4, .int v534)]) rfl rfl ?_
            refine g_iload rfl ?_
            refine g_if_ne (fun c535 => ?_) (fun c535 => ?_)
            · exfalso; omega
            · refine g_sipush (by decide) (fun v536 kv536 => ?_)
              exact g_iret ⟨_, rfl, hIH506, hJH506, (e507.symm.trans ek0_2), m508⟩
          · refine g_iload_n rfl ?_
            refine g_iconst (by decide) (fun v537 kv537 => ?_)
            refine g_if2_eq (fun c538 => ?_) (fun c538 => ?_)
            · refine g_iconst (by decide) (fun v539 kv539 => ?_)
              refine g_goto ?_
              refine g_istore (l' := [(0, .ref 0), (1, .int a1), (2, .int a2), (3, .int a3), (4, .int v539)]) rfl rfl ?_
              refine g_iload rfl ?_
              refine g_if_ne (fun c540 => ?_) (fun c540 => ?_)
              · refine g_aload_n rfl ?_
                refine g_invvv hIH506 sm_0 rfl rfl rfl rfl (s_183 H506 hIH506 hJH506) (fun H541 r542 => ?_)
                obtain ⟨hIH541, hJH541, m543, m544, m545, p546⟩ := r542
                have e547 : k0_2 = fZ H541 0 2 := e507.trans (m543 0 2).symm
                have m548 : kpM H H541 := kpM_t m508 m545
                refine g_aload_n rfl ?_
                refine g_gfr hIH541 sm_0 rfl ?_
                refine g_iload_n rfl ?_
                refine g_aload_n rfl ?_
                refine g_iload_n rfl ?_
                refine g_iconst (by decide) (fun v549 kv549 => ?_)
                refine g_invvi hIH541 sm_0 rfl rfl rfl rfl (s_182 a2 (by first | with_reducible assumption | omega) v549 (by first | with_reducible assumption | omega) H541 hIH541 hJH541) (fun v552 H550 r551 => ?_)
                obtain ⟨rfl, p553⟩ := r551
                have tv552 : v552 = aZ H541 2 (69 + 5 * a2.toInt + 0).toNat := by rw [p553, kv549]
                refine g_iastore hIH541 sm_18 (by first | with_reducible assumption | omega) (gz_any _) (fun H554 eH554 hIH554 => ?_)
                have hJH554 : JN H554 := JN_sA (by decide) eH554 hJH541
                have e555 : k0_2 = fZ H554 0 2 := by rw [eH554, fZ_sA]; exact e547
                have m556 : kpM H H554 := kpM_A m548 eH554 (by first | with_reducible assumption | omega)
                refine g_aload_n rfl ?_
                refine g_gfr hIH554 sm_0 rfl ?_
                refine g_iload_n rfl ?_
                refine g_aload_n rfl ?_
                refine g_iload_n rfl ?_
                refine g_iconst (by decide) (fun v557 kv557 => ?_)
                refine g_invvi hIH554 sm_0 rfl rfl rfl rfl (s_182 a1 (by first | with_reducible assumption | omega) v557 (by first | with_reducible assumption | omega) H554 hIH554 hJH554) (fun v560 H558 r559 => ?_)
                obtain ⟨rfl, p561⟩ := r559
                have tv560 : v560 = aZ H554 2 (69 + 5 * a1.toInt + 0).toNat := by rw [p561, kv557]
                refine g_iastore hIH554 sm_18 (by first | with_reducible assumption | omega) (gz_any _) (fun H562 eH562 hIH562 => ?_)
                have hJH562 : JN H562 := JN_sA (by decide) eH562 hJH554
                have e563 : k0_2 = fZ H562 0 2 := by rw [eH562, fZ_sA]; exact e555
                have m564 : kpM H H562 := kpM_A m556 eH562 (by first | with_reducible assumption | omega)
                refine g_aload_n rfl ?_
                refine g_sipush (by decide) (fun v565 kv565 => ?_)
                refine g_invvv hIH562 sm_0 rfl rfl rfl rfl (s_199 v565 H562 hIH562 hJH562) (fun H566 r567 => ?_)
                obtain ⟨hIH566, hJH566, w568, w569, m570, m571, m572, p573⟩ := r567
                have e574 : k0_2 = fZ H566 0 2 := e563.trans w568.symm
                have m575 : kpM H H566 := kpM_t m564 m572
                refine g_iload_n rfl ?_
                refine g_iconst (by decide) (fun v576 kv576 => ?_)
                refine g_if2_ne (fun c577 => ?_) (fun c577 => ?_)
                · exfalso; omega
                · refine g_aload_n rfl ?_
                  refine g_invvi hIH566 sm_0 rfl rfl rfl rfl (s_225 H566 hIH566 (JM_n hJH566)) (fun v580 H578 r579 => ?_)
                  obtain rfl := r579
                  refine g_goto ?_
                  exact g_iret ⟨_, rfl, hIH566, (JM_n hJH566), (e574.symm.trans ek0_2), m575⟩
              · exfalso; omega
            · refine g_iload_n rfl ?_
              refine g_invti rfl rfl rfl (s_206 a3 H506 hIH506 hJH506) (fun v583 H581 r582 => ?_)
              obtain ⟨rfl, bv583, p584⟩ := r582
              refine g_if_eq (fun c585 => ?_) (fun c585 => ?_)
              · refine g_iconst (by decide) (fun v586 kv586 => ?_)
                refine g_nop ?_
                refine g_istore (l' := [(0, .ref 0), (1, .int a1), (2, .int a2), (3, .int a3), (4, .int v586)]) rfl rfl ?_
                refine g_iload rfl ?_
                refine g_if_ne (fun c587 => ?_) (fun c587 => ?_)
                · exfalso; omega
                · refine g_sipush (by decide) (fun v588 kv588 => ?_)
                  exact g_iret ⟨_, rfl, hIH506, hJH506, (e507.symm.trans ek0_2), m508⟩
              · refine g_nop ?_
                refine g_iconst (by decide) (fun v589 kv589 => ?_)
                refine g_goto ?_
                refine g_istore (l' := [(0, .ref 0), (1, .int a1), (2, .int a2), (3, .int a3), (4, .int v589)]) rfl rfl ?_
                refine g_iload rfl ?_
                refine g_if_ne (fun c590 => ?_) (fun c590 => ?_)
                · refine g_aload_n rfl ?_
                  refine g_invvv hIH506 sm_0 rfl rfl rfl rfl (s_183 H506 hIH506 hJH506) (fun H591 r592 => ?_)
                  obtain ⟨hIH591, hJH591, m593, m594, m595, p596⟩ := r592
                  have e597 : k0_2 = fZ H591 0 2 := e507.trans (m593 0 2).symm
                  have m598 : kpM H H591 := kpM_t m508 m595
                  refine g_aload_n rfl ?_
                  refine g_gfr hIH591 sm_0 rfl ?_
                  refine g_iload_n rfl ?_
                  refine g_aload_n rfl ?_
                  refine g_iload_n rfl ?_
                  refine g_iconst (by decide) (fun v599 kv599 => ?_)
                  refine g_invvi hIH591 sm_0 rfl rfl rfl rfl (s_182 a2 (by first | with_reducible assumption | omega) v599 (by first | with_reducible assumption | omega) H591 hIH591 hJH591) (fun v602 H600 r601 => ?_)
                  obtain ⟨rfl, p603⟩ := r601
                  have tv602 : v602 = aZ H591 2 (69 + 5 * a2.toInt + 0).toNat := by rw [p603, kv599]
                  refine g_iastore hIH591 sm_18 (by first | with_reducible assumption | omega) (gz_any _) (fun H604 eH604 hIH604 => ?_)
                  have hJH604 : JN H604 := JN_sA (by decide) eH604 hJH591
                  have e605 : k0_2 = fZ H604 0 2 := by rw [eH604, fZ_sA]; exact e597
                  have m606 : kpM H H604 := kpM_A m598 eH604 (by first | with_reducible assumption | omega)
                  refine g_aload_n rfl ?_
                  refine g_gfr hIH604 sm_0 rfl ?_
                  refine g_iload_n rfl ?_
                  refine g_aload_n rfl ?_
                  refine g_iload_n rfl ?_
                  refine g_iconst (by decide) (fun v607 kv607 => ?_)
                  refine g_invvi hIH604 sm_0 rfl rfl rfl rfl (s_182 a1 (by first | with_reducible assumption | omega) v607 (by first | with_reducible assumption | omega) H604 hIH604 hJH604) (fun v610 H608 r609 => ?_)
                  obtain ⟨rfl, p611⟩ := r609
                  have tv610 : v610 = aZ H604 2 (69 + 5 * a1.toInt + 0).toNat := by rw [p611, kv607]
                  refine g_iastore hIH604 sm_18 (by first | with_reducible assumption | omega) (gz_any _) (fun H612 eH612 hIH612 => ?_)
                  have hJH612 : JN H612 := JN_sA (by decide) eH612 hJH604
                  have e613 : k0_2 = fZ H612 0 2 := by rw [eH612, fZ_sA]; exact e605
                  have m614 : kpM H H612 := kpM_A m606 eH612 (by first | with_reducible assumption | omega)
                  refine g_aload_n rfl ?_
                  refine g_sipush (by decide) (fun v615 kv615 => ?_)
                  refine g_invvv hIH612 sm_0 rfl rfl rfl rfl (s_199 v615 H612 hIH612 hJH612) (fun H616 r617 => ?_)
                  obtain ⟨hIH616, hJH616, w618, w619, m620, m621, m622, p623⟩ := r617
                  have e624 : k0_2 = fZ H616 0 2 := e613.trans w618.symm
                  have m625 : kpM H H616 := kpM_t m614 m622
                  refine g_iload_n rfl ?_
                  refine g_iconst (by decide) (fun v626 kv626 => ?_)
                  refine g_if2_ne (fun c627 => ?_) (fun c627 => ?_)
                  · refine g_aload_n rfl ?_
                    refine g_iload_n rfl ?_
                    refine g_invvi hIH616 sm_0 rfl rfl rfl rfl (s_202 a3 (by first | with_reducible assumption | omega) H616 hIH616 hJH616) (fun v630 H628 r629 => ?_)
                    obtain ⟨rfl, bv630⟩ := r629
                    refine g_nop ?_
                    exact g_iret ⟨_, rfl, hIH616, (JM_n hJH616), (e624.symm.trans ek0_2), m625⟩
                  · exfalso; omega
                · exfalso; omega
set_option maxRecDepth 4000 in
set_option maxHeartbeats 4000000 in
/-- M.manyAt -/
theorem s_249 (a1 : Int32) (H : mzH) (hI : gI SM H) (hJ : JM H) : gCall 249 [.ref 0, .int a1] H (gRi (fun v H' => H = H')) := by
  refine gG_call [(0, .ref 0), (1, .int a1)] ⟨rfl, rfl, trivial⟩ ?_
  show gG 4 zB_249 (mzBlk zB_249 0) [(0, .ref 0), (1, .int a1)] [] H 0 0 _
  refine g_iconst (by decide) (fun v459 kv459 => ?_)
  refine g_istore_n (l' := [(0, .ref 0), (1, .int a1), (2, .int v459)]) rfl rfl ?_
  refine g_iconst (by decide) (fun v460 kv460 => ?_)
  refine g_istore_n (l' := [(0, .ref 0), (1, .int a1), (2, .int v459), (3, .int v460)]) rfl rfl ?_
  refine g_nop ?_
  have L463 : ∀ (N : Nat) (v461 : Int32) (v462 : Int32), (0 ≤ v462.toInt ∧ v462.toInt ≤ 40) → (40 - v462.toInt).toNat < N → gG 4 zB_249 (mzBlk zB_249 1) [(0, .ref 0), (1, .int a1), (2, .int v461), (3, .int v462)] [] H 0 0 (gRi (fun v H' => H = H')) := by
    intro N
    induction N with
    | zero => intro v461 v462 bv462 hmL463; exact absurd hmL463 (Nat.not_lt_zero _)
    | succ N ihL463 =>
      intro v461 v462 bv462 hmL463
      refine g_iload_n rfl ?_
      refine g_bipush (by decide) (fun v464 kv464 => ?_)
      refine g_if2_ge (fun c465 => ?_) (fun c465 => ?_)
      · refine g_iload_n rfl ?_
        exact g_iret ⟨_, rfl, rfl⟩
      · refine g_iload_n rfl ?_
        refine g_aload_n rfl ?_
        refine g_iload_n rfl ?_
        refine g_invvi hI sm_0 rfl rfl rfl rfl (s_202 v462 (by first | with_reducible assumption | omega) H hI hJ) (fun v468 H466 r467 => ?_)
        obtain ⟨rfl, bv468⟩ := r467
        refine g_iload_n rfl ?_
        refine g_if2_ne (fun c469 => ?_) (fun c469 => ?_)
        · refine g_iconst (by decide) (fun v470 kv470 => ?_)
          refine g_nop ?_
          refine g_iadd (by have := gz_any v461; omega) (fun v471 ev471 => ?_)
          refine g_istore_n (l' := [(0, .ref 0), (1, .int a1), (2, .int v471), (3, .int v462)]) rfl rfl ?_
          refine g_iinc (l' := (fun v472 => [(0, .ref 0), (1, .int a1), (2, .int v471), (3, .int v472)])) rfl rfl (by decide) (by first | with_reducible assumption | omega) (fun _ => rfl) (fun v472 ev472 => ?_)
          refine g_goto ?_
          exact ihL463 v471 v472 (by first | with_reducible assumption | omega) (by first | with_reducible assumption | omega)
        · refine g_iconst (by decide) (fun v473 kv473 => ?_)
          refine g_goto ?_
          refine g_iadd' (fun v474 ov474 => ?_)
          refine g_istore_n (l' := [(0, .ref 0), (1, .int a1), (2, .int v474), (3, .int v462)]) rfl rfl ?_
          refine g_iinc (l' := (fun v475 => [(0, .ref 0), (1, .int a1), (2, .int v474), (3, .int v475)])) rfl rfl (by decide) (by first | with_reducible assumption | omega) (fun _ => rfl) (fun v475 ev475 => ?_)
          refine g_goto ?_
          exact ihL463 v474 v475 (by first | with_reducible assumption | omega) (by first | with_reducible assumption | omega)
  exact L463 _ v459 v460 (by first | with_reducible assumption | omega) (Nat.lt_succ_self _)
set_option maxRecDepth 4000 in
set_option maxHeartbeats 4000000 in
/-- M.busy -/
theorem s_250 (a1 : Int32) (a2 : Int32) (H : mzH) (hI : gI SM H) (hJ : JN H) : gCall 250 [.ref 0, .int a1, .int a2] H (gRi (fun v H' => gI SM H' ∧ JN H' ∧ fZ H' 0 2 = fZ H 0 2 ∧ kpM H H')) := by
  obtain ⟨k0_2, ek0_2⟩ : ∃ z, z = fZ H 0 2 := ⟨_, rfl⟩
  have ik0_2 : k0_2.toInt = (fZ H 0 2).toInt := by rw [← ek0_2]
  have bk0_2 : 0 ≤ k0_2.toInt ∧ k0_2.toInt ≤ 900 := by rw [ek0_2]; exact fZ_of hI sm_0 rfl
  have mkfr : kpM H H := kpM_r
  refine gG_call [(0, .ref 0), (1, .int a1), (2, .int a2)] ⟨rfl, rfl, rfl, trivial⟩ ?_
  show gG 7 zB_250 (mzBlk zB_250 0) [(0, .ref 0), (1, .int a1), (2, .int a2)] [] H 0 0 _
  refine g_aload_n rfl ?_
  refine g_iconst (by decide) (fun v775 kv775 => ?_)
  refine g_pfi hI sm_0 rfl (gz_any _) (fun H776 eH776 hIH776 => ?_)
  have hJH776 : JN H776 := JN_sF eH776 hJ
  have e777 : k0_2 = fZ H776 0 2 := by rw [eH776, fZ_sF_ne (by decide)]; exact ek0_2
  have m778 : kpM H H776 := kpM_F mkfr eH776 (by first | with_reducible assumption | omega)
  refine g_aload_n rfl ?_
  refine g_iload_n rfl ?_
  refine g_invvi hIH776 sm_0 rfl rfl rfl rfl (s_211 a1 H776 hIH776 hJH776) (fun v781 H779 r780 => ?_)
  obtain ⟨rfl, bv781, p782⟩ := r780
  refine g_if_ne (fun c783 => ?_) (fun c783 => ?_)
  · refine g_iload_n rfl ?_
    refine g_if_lt (fun c784 => ?_) (fun c784 => ?_)
    · refine g_iconst (by decide) (fun v785 kv785 => ?_)
      exact g_iret ⟨_, rfl, hIH776, hJH776, (e777.symm.trans ek0_2), m778⟩
    · refine g_iload_n rfl ?_
      refine g_iconst (by decide) (fun v786 kv786 => ?_)
      refine g_if2_le (fun c787 => ?_) (fun c787 => ?_)
      · refine g_aload_n rfl ?_
        refine g_invvv hIH776 sm_0 rfl rfl rfl rfl (s_183 H776 hIH776 hJH776) (fun H788 r789 => ?_)
        obtain ⟨hIH788, hJH788, m790, m791, m792, p793⟩ := r789
        have e794 : k0_2 = fZ H788 0 2 := e777.trans (m790 0 2).symm
        have m795 : kpM H H788 := kpM_t m778 m792
        refine g_aload_n rfl ?_
        refine g_invvv hIH788 sm_0 rfl rfl rfl rfl (s_185 H788 hIH788 hJH788) (fun H796 r797 => ?_)
        obtain ⟨hIH796, hJH796, w798, w799, m800, m801, m802, p803⟩ := r797
        have e804 : k0_2 = fZ H796 0 2 := e794.trans w798.symm
        have m805 : kpM H H796 := kpM_t m795 m802
        refine g_iconst (by decide) (fun v806 kv806 => ?_)
        refine g_istore_n (l' := [(0, .ref 0), (1, .int a1), (2, .int a2), (3, .int v806)]) rfl rfl ?_
        refine g_bipush (by decide) (fun v807 kv807 => ?_)
        refine g_istore (l' := [(0, .ref 0), (1, .int a1), (2, .int a2), (3, .int v806), (4, .int v807)]) rfl rfl ?_
        refine g_iconst (by decide) (fun v808 kv808 => ?_)
        refine g_istore (l' := [(0, .ref 0), (1, .int a1), (2, .int a2), (3, .int v806), (4, .int v807), (5, .int v808)]) rfl rfl ?_
        refine g_nop ?_
        have L815 : ∀ (N : Nat) (v809 : Int32) (v810 : Int32) (v811 : Int32) (H812 : mzH), gI SM H812 → JM H812 → k0_2 = fZ H812 0 2 → kpM H H812 → (-1 ≤ v809.toInt ∧ v809.toInt ≤ 2147483647) → (0 ≤ v811.toInt ∧ v811.toInt ≤ 60) → (60 - v811.toInt).toNat < N → gG 7 zB_250 (mzBlk zB_250 4) [(0, .ref 0), (1, .int a1), (2, .int a2), (3, .int v809), (4, .int v810), (5, .int v811)] [] H812 0 0 (gRi (fun v H' => gI SM H' ∧ JN H' ∧ fZ H' 0 2 = fZ H 0 2 ∧ kpM H H')) := by
          intro N
          induction N with
          | zero => intro v809 v810 v811 H812 hIH812 hJH812 e813 m814 bv809 bv811 hmL815; exact absurd hmL815 (Nat.not_lt_zero _)
          | succ N ihL815 =>
            intro v809 v810 v811 H812 hIH812 hJH812 e813 m814 bv809 bv811 hmL815
            refine g_iload rfl ?_
            refine g_aload_n rfl ?_
            refine g_gfi hIH812 sm_0 rfl (fun v816 ev816 lv816 uv816 => ?_)
            refine g_if2_ge (fun c817 => ?_) (fun c817 => ?_)
            · refine g_iload_n rfl ?_
              refine g_iconst (by decide) (fun v818 kv818 => ?_)
              refine g_if2_ne (fun c819 => ?_) (fun c819 => ?_)
              · refine g_iload_n rfl ?_
                refine g_iconst (by decide) (fun v820 kv820 => ?_)
                refine g_if2_ne (fun c821 => ?_) (fun c821 => ?_)
                · refine g_iload_n rfl ?_
                  refine g_nop ?_
                  exact g_iret ⟨_, rfl, hIH812, (JM_n hJH812), (e813.symm.trans ek0_2), m814⟩
                · refine g_iconst (by decide) (fun v822 kv822 => ?_)
                  refine g_goto ?_
                  exact g_iret ⟨_, rfl, hIH812, (JM_n hJH812), (e813.symm.trans ek0_2), m814⟩
              · refine g_iload rfl ?_
                refine g_goto ?_
                exact g_iret ⟨_, rfl, hIH812, (JM_n hJH812), (e813.symm.trans ek0_2), m814⟩
            · refine g_aload_n rfl ?_
              refine g_aload_n rfl ?_
              refine g_gfr hIH812 sm_0 rfl ?_
              refine g_iload rfl ?_
              refine g_iaload hIH812 sm_19 rfl (by first | with_reducible assumption | omega) (fun v823 ev823 lv823 uv823 => ?_)
              refine g_invvv hIH812 sm_0 rfl rfl rfl rfl (s_193 v823 (by first | with_reducible assumption | omega) H812 hIH812 hJH812) (fun H824 r825 => ?_)
              obtain ⟨hIH824, hJH824, m826, m827, m828, m829, m830⟩ := r825
              have e831 : k0_2 = fZ H824 0 2 := e813.trans (m826 0 2).symm
              have m832 : kpM H H824 := kpM_t m814 m830
              refine g_aload_n rfl ?_
              refine g_iload_n rfl ?_
              refine g_invvi hIH824 sm_0 rfl rfl rfl rfl (s_249 a1 H824 hIH824 hJH824) (fun v835 H833 r834 => ?_)
              obtain rfl := r834
              refine g_istore (l' := [(0, .ref 0), (1, .int a1), (2, .int a2), (3, .int v809), (4, .int v810), (5, .int v811), (6, .int v835)]) rfl rfl ?_
              refine g_iload rfl ?_
              refine g_iload_n rfl ?_
              refine g_if2_gt (fun c836 => ?_) (fun c836 => ?_)
              · refine g_iload rfl ?_
                refine g_istore_n (l' := [(0, .ref 0), (1, .int a1), (2, .int a2), (3, .int v835), (4, .int v810), (5, .int v811), (6, .int v835)]) rfl rfl ?_
                refine g_aload_n rfl ?_
                refine g_gfr hIH824 sm_0 rfl ?_
                refine g_aload_n rfl ?_
                refine g_gfr hIH824 sm_0 rfl ?_
                refine g_iload rfl ?_
                refine g_iaload hIH824 sm_19 rfl (by first | with_reducible assumption | omega) (fun v837 ev837 lv837 uv837 => ?_)
                refine g_iaload hIH824 sm_18 rfl (by first | with_reducible assumption | omega) (fun v838 ev838 lv838 uv838 => ?_)
                refine g_istore (l' := [(0, .ref 0), (1, .int a1), (2, .int a2), (3, .int v835), (4, .int v838), (5, .int v811), (6, .int v835)]) rfl rfl ?_
                refine g_nop ?_
                refine g_iinc (l' := (fun v839 => [(0, .ref 0), (1, .int a1), (2, .int a2), (3, .int v835), (4, .int v838), (5, .int v839), (6, .int v835)])) rfl rfl (by decide) (by first | with_reducible assumption | omega) (fun _ => rfl) (fun v839 ev839 => ?_)
                refine g_goto ?_
                refine gG_pick [0, 1, 2, 3, 4, 5] (l' := [(0, .ref 0), (1, .int a1), (2, .int a2), (3, .int v835), (4, .int v838), (5, .int v839)]) rfl ?_
                exact ihL815 v835 v838 v839 H824 hIH824 hJH824 e831 m832 (by have := gz_any v835; omega) (by first | with_reducible assumption | omega) (by first | with_reducible assumption | omega)
              · refine g_goto ?_
                refine g_iinc (l' := (fun v840 => [(0, .ref 0), (1, .int a1), (2, .int a2), (3, .int v809), (4, .int v810), (5, .int v840), (6, .int v835)])) rfl rfl (by decide) (by first | with_reducible assumption | omega) (fun _ => rfl) (fun v840 ev840 => ?_)
                refine g_goto ?_
                refine gG_pick [0, 1, 2, 3, 4, 5] (l' := [(0, .ref 0), (1, .int a1), (2, .int a2), (3, .int v809), (4, .int v810), (5, .int v840)]) rfl ?_
                exact ihL815 v809 v810 v840 H824 hIH824 hJH824 e831 m832 (by have := gz_any v809; omega) (by first | with_reducible assumption | omega) (by first | with_reducible assumption | omega)
        exact L815 _ v806 v807 v808 H796 hIH796 hJH796 e804 m805 (by have := gz_any v806; omega) (by first | with_reducible assumption | omega) (Nat.lt_succ_self _)
      · refine g_nop ?_
        refine g_iconst (by decide) (fun v841 kv841 => ?_)
        exact g_iret ⟨_, rfl, hIH776, hJH776, (e777.symm.trans ek0_2), m778⟩
  · refine g_iload_n rfl ?_
    refine g_bipush (by decide) (fun v842 kv842 => ?_)
    refine g_if2_eq (fun c843 => ?_) (fun c843 => ?_)
    · refine g_iload_n rfl ?_
      refine g_if_lt (fun c844 => ?_) (fun c844 => ?_)
      · refine g_iconst (by decide) (fun v845 kv845 => ?_)
        exact g_iret ⟨_, rfl, hIH776, hJH776, (e777.symm.trans ek0_2), m778⟩
      · refine g_iload_n rfl ?_
        refine g_iconst (by decide) (fun v846 kv846 => ?_)
        refine g_if2_le (fun c847 => ?_) (fun c847 => ?_)
        · refine g_aload_n rfl ?_
          refine g_invvv hIH776 sm_0 rfl rfl rfl rfl (s_183 H776 hIH776 hJH776) (fun H848 r849 => ?_)
          obtain ⟨hIH848, hJH848, m850, m851, m852, p853⟩ := r849
          have e854 : k0_2 = fZ H848 0 2 := e777.trans (m850 0 2).symm
          have m855 : kpM H H848 := kpM_t m778 m852
          refine g_aload_n rfl ?_
          refine g_invvv hIH848 sm_0 rfl rfl rfl rfl (s_185 H848 hIH848 hJH848) (fun H856 r857 => ?_)
          obtain ⟨hIH856, hJH856, w858, w859, m860, m861, m862, p863⟩ := r857
          have e864 : k0_2 = fZ H856 0 2 := e854.trans w858.symm
          have m865 : kpM H H856 := kpM_t m855 m862
          refine g_iconst (by decide) (fun v866 kv866 => ?_)
          refine g_istore_n (l' := [(0, .ref 0), (1, .int a1), (2, .int a2), (3, .int v866)]) rfl rfl ?_
          refine g_bipush (by decide) (fun v867 kv867 => ?_)
          refine g_istore (l' := [(0, .ref 0), (1, .int a1), (2, .int a2), (3, .int v866), (4, .int v867)]) rfl rfl ?_
          refine g_iconst (by decide) (fun v868 kv868 => ?_)
          refine g_istore (l' := [(0, .ref 0), (1, .int a1), (2, .int a2), (3, .int v866), (4, .int v867), (5, .int v868)]) rfl rfl ?_
          refine g_nop ?_
          have L875 : ∀ (N : Nat) (v869 : Int32) (v870 : Int32) (v871 : Int32) (H872 : mzH), gI SM H872 → JM H872 → k0_2 = fZ H872 0 2 → kpM H H872 → (-1 ≤ v869.toInt ∧ v869.toInt ≤ 2147483647) → (0 ≤ v871.toInt ∧ v871.toInt ≤ 60) → (60 - v871.toInt).toNat < N → gG 7 zB_250 (mzBlk zB_250 4) [(0, .ref 0), (1, .int a1), (2, .int a2), (3, .int v869), (4, .int v870), (5, .int v871)] [] H872 0 0 (gRi (fun v H' => gI SM H' ∧ JN H' ∧ fZ H' 0 2 = fZ H 0 2 ∧ kpM H H')) := by
            intro N
            induction N with
            | zero => intro v869 v870 v871 H872 hIH872 hJH872 e873 m874 bv869 bv871 hmL875; exact absurd hmL875 (Nat.not_lt_zero _)
            | succ N ihL875 =>
              intro v869 v870 v871 H872 hIH872 hJH872 e873 m874 bv869 bv871 hmL875
              refine g_iload rfl ?_
              refine g_aload_n rfl ?_
              refine g_gfi hIH872 sm_0 rfl (fun v876 ev876 lv876 uv876 => ?_)
              refine g_if2_ge (fun c877 => ?_) (fun c877 => ?_)
              · refine g_iload_n rfl ?_
                refine g_iconst (by decide) (fun v878 kv878 => ?_)
                refine g_if2_ne (fun c879 => ?_) (fun c879 => ?_)
                · refine g_iload_n rfl ?_
                  refine g_iconst (by decide) (fun v880 kv880 => ?_)
                  refine g_if2_ne (fun c881 => ?_) (fun c881 => ?_)
                  · refine g_iload_n rfl ?_
                    refine g_nop ?_
                    exact g_iret ⟨_, rfl, hIH872, (JM_n hJH872), (e873.symm.trans ek0_2), m874⟩
                  · refine g_iconst (by decide) (fun v882 kv882 => ?_)
                    refine g_goto ?_
                    exact g_iret ⟨_, rfl, hIH872, (JM_n hJH872), (e873.symm.trans ek0_2), m874⟩
                · refine g_iload rfl ?_
                  refine g_goto ?_
                  exact g_iret ⟨_, rfl, hIH872, (JM_n hJH872), (e873.symm.trans ek0_2), m874⟩
              · refine g_aload_n rfl ?_
                refine g_aload_n rfl ?_
                refine g_gfr hIH872 sm_0 rfl ?_
                refine g_iload rfl ?_
                refine g_iaload hIH872 sm_19 rfl (by first | with_reducible assumption | omega) (fun v883 ev883 lv883 uv883 => ?_)
                refine g_invvv hIH872 sm_0 rfl rfl rfl rfl (s_193 v883 (by first | with_reducible assumption | omega) H872 hIH872 hJH872) (fun H884 r885 => ?_)
                obtain ⟨hIH884, hJH884, m886, m887, m888, m889, m890⟩ := r885
                have e891 : k0_2 = fZ H884 0 2 := e873.trans (m886 0 2).symm
                have m892 : kpM H H884 := kpM_t m874 m890
                refine g_aload_n rfl ?_
                refine g_iload_n rfl ?_
                refine g_invvi hIH884 sm_0 rfl rfl rfl rfl (s_249 a1 H884 hIH884 hJH884) (fun v895 H893 r894 => ?_)
                obtain rfl := r894
                refine g_istore (l' := [(0, .ref 0), (1, .int a1), (2, .int a2), (3, .int v869), (4, .int v870), (5, .int v871), (6, .int v895)]) rfl rfl ?_
                refine g_iload rfl ?_
                refine g_iload_n rfl ?_
                refine g_if2_gt (fun c896 => ?_) (fun c896 => ?_)
                · refine g_iload rfl ?_
                  refine g_istore_n (l' := [(0, .ref 0), (1, .int a1), (2, .int a2), (3, .int v895), (4, .int v870), (5, .int v871), (6, .int v895)]) rfl rfl ?_
                  refine g_aload_n rfl ?_
                  refine g_gfr hIH884 sm_0 rfl ?_
                  refine g_aload_n rfl ?_
                  refine g_gfr hIH884 sm_0 rfl ?_
                  refine g_iload rfl ?_
                  refine g_iaload hIH884 sm_19 rfl (by first | with_reducible assumption | omega) (fun v897 ev897 lv897 uv897 => ?_)
                  refine g_iaload hIH884 sm_18 rfl (by first | with_reducible assumption | omega) (fun v898 ev898 lv898 uv898 => ?_)
                  refine g_istore (l' := [(0, .ref 0), (1, .int a1), (2, .int a2), (3, .int v895), (4, .int v898), (5, .int v871), (6, .int v895)]) rfl rfl ?_
                  refine g_nop ?_
                  refine g_iinc (l' := (fun v899 => [(0, .ref 0), (1, .int a1), (2, .int a2), (3, .int v895), (4, .int v898), (5, .int v899), (6, .int v895)])) rfl rfl (by decide) (by first | with_reducible assumption | omega) (fun _ => rfl) (fun v899 ev899 => ?_)
                  refine g_goto ?_
                  refine gG_pick [0, 1, 2, 3, 4, 5] (l' := [(0, .ref 0), (1, .int a1), (2, .int a2), (3, .int v895), (4, .int v898), (5, .int v899)]) rfl ?_
                  exact ihL875 v895 v898 v899 H884 hIH884 hJH884 e891 m892 (by have := gz_any v895; omega) (by first | with_reducible assumption | omega) (by first | with_reducible assumption | omega)
                · refine g_goto ?_
                  refine g_iinc (l' := (fun v900 => [(0, .ref 0), (1, .int a1), (2, .int a2), (3, .int v869), (4, .int v870), (5, .int v900), (6, .int v895)])) rfl rfl (by decide) (by first | with_reducible assumption | omega) (fun _ => rfl) (fun v900 ev900 => ?_)
                  refine g_goto ?_
                  refine gG_pick [0, 1, 2, 3, 4, 5] (l' := [(0, .ref 0), (1, .int a1), (2, .int a2), (3, .int v869), (4, .int v870), (5, .int v900)]) rfl ?_
                  exact ihL875 v869 v870 v900 H884 hIH884 hJH884 e891 m892 (by have := gz_any v869; omega) (by first | with_reducible assumption | omega) (by first | with_reducible assumption | omega)
          exact L875 _ v866 v867 v868 H856 hIH856 hJH856 e864 m865 (by have := gz_any v866; omega) (by first | with_reducible assumption | omega) (Nat.lt_succ_self _)
        · refine g_nop ?_
          refine g_iconst (by decide) (fun v901 kv901 => ?_)
          exact g_iret ⟨_, rfl, hIH776, hJH776, (e777.symm.trans ek0_2), m778⟩
    · refine g_iload_n rfl ?_
      refine g_bipush (by decide) (fun v902 kv902 => ?_)
      refine g_if2_ne (fun c903 => ?_) (fun c903 => ?_)
      · refine g_iconst (by decide) (fun v904 kv904 => ?_)
        exact g_iret ⟨_, rfl, hIH776, hJH776, (e777.symm.trans ek0_2), m778⟩
      · refine g_nop ?_
        refine g_iload_n rfl ?_
        refine g_if_lt (fun c905 => ?_) (fun c905 => ?_)
        · refine g_iconst (by decide) (fun v906 kv906 => ?_)
          exact g_iret ⟨_, rfl, hIH776, hJH776, (e777.symm.trans ek0_2), m778⟩
        · refine g_iload_n rfl ?_
          refine g_iconst (by decide) (fun v907 kv907 => ?_)
          refine g_if2_le (fun c908 => ?_) (fun c908 => ?_)
          · refine g_aload_n rfl ?_
            refine g_invvv hIH776 sm_0 rfl rfl rfl rfl (s_183 H776 hIH776 hJH776) (fun H909 r910 => ?_)
            obtain ⟨hIH909, hJH909, m911, m912, m913, p914⟩ := r910
            have e915 : k0_2 = fZ H909 0 2 := e777.trans (m911 0 2).symm
            have m916 : kpM H H909 := kpM_t m778 m913
            refine g_aload_n rfl ?_
            refine g_invvv hIH909 sm_0 rfl rfl rfl rfl (s_185 H909 hIH909 hJH909) (fun H917 r918 => ?_)
            obtain ⟨hIH917, hJH917, w919, w920, m921, m922, m923, p924⟩ := r918
            have e925 : k0_2 = fZ H917 0 2 := e915.trans w919.symm
            have m926 : kpM H H917 := kpM_t m916 m923
            refine g_iconst (by decide) (fun v927 kv927 => ?_)
            refine g_istore_n (l' := [(0, .ref 0), (1, .int a1), (2, .int a2), (3, .int v927)]) rfl rfl ?_
            refine g_bipush (by decide) (fun v928 kv928 => ?_)
            refine g_istore (l' := [(0, .ref 0), (1, .int a1), (2, .int a2), (3, .int v927), (4, .int v928)]) rfl rfl ?_
            refine g_iconst (by decide) (fun v929 kv929 => ?_)
            refine g_istore (l' := [(0, .ref 0), (1, .int a1), (2, .int a2), (3, .int v927), (4, .int v928), (5, .int v929)]) rfl rfl ?_
            refine g_nop ?_
            have L936 : ∀ (N : Nat) (v930 : Int32) (v931 : Int32) (v932 : Int32) (H933 : mzH), gI SM H933 → JM H933 → k0_2 = fZ H933 0 2 → kpM H H933 → (-1 ≤ v930.toInt ∧ v930.toInt ≤ 2147483647) → (0 ≤ v932.toInt ∧ v932.toInt ≤ 60) → (60 - v932.toInt).toNat < N → gG 7 zB_250 (mzBlk zB_250 4) [(0, .ref 0), (1, .int a1), (2, .int a2), (3, .int v930), (4, .int v931), (5, .int v932)] [] H933 0 0 (gRi (fun v H' => gI SM H' ∧ JN H' ∧ fZ H' 0 2 = fZ H 0 2 ∧ kpM H H')) := by
              intro N
              induction N with
              | zero => intro v930 v931 v932 H933 hIH933 hJH933 e934 m935 bv930 bv932 hmL936; exact absurd hmL936 (Nat.not_lt_zero _)
              | succ N ihL936 =>
                intro v930 v931 v932 H933 hIH933 hJH933 e934 m935 bv930 bv932 hmL936
                refine g_iload rfl ?_
                refine g_aload_n rfl ?_
                refine g_gfi hIH933 sm_0 rfl (fun v937 ev937 lv937 uv937 => ?_)
                refine g_if2_ge (fun c938 => ?_) (fun c938 => ?_)
                · refine g_iload_n rfl ?_
                  refine g_iconst (by decide) (fun v939 kv939 => ?_)
                  refine g_if2_ne (fun c940 => ?_) (fun c940 => ?_)
                  · refine g_iload_n rfl ?_
                    refine g_iconst (by decide) (fun v941 kv941 => ?_)
                    refine g_if2_ne (fun c942 => ?_) (fun c942 => ?_)
                    · refine g_iload_n rfl ?_
                      refine g_nop ?_
                      exact g_iret ⟨_, rfl, hIH933, (JM_n hJH933), (e934.symm.trans ek0_2), m935⟩
                    · refine g_iconst (by decide) (fun v943 kv943 => ?_)
                      refine g_goto ?_
                      exact g_iret ⟨_, rfl, hIH933, (JM_n hJH933), (e934.symm.trans ek0_2), m935⟩
                  · refine g_iload rfl ?_
                    refine g_goto ?_
                    exact g_iret ⟨_, rfl, hIH933, (JM_n hJH933), (e934.symm.trans ek0_2), m935⟩
                · refine g_aload_n rfl ?_
                  refine g_aload_n rfl ?_
                  refine g_gfr hIH933 sm_0 rfl ?_
                  refine g_iload rfl ?_
                  refine g_iaload hIH933 sm_19 rfl (by first | with_reducible assumption | omega) (fun v944 ev944 lv944 uv944 => ?_)
                  refine g_invvv hIH933 sm_0 rfl rfl rfl rfl (s_193 v944 (by first | with_reducible assumption | omega) H933 hIH933 hJH933) (fun H945 r946 => ?_)
                  obtain ⟨hIH945, hJH945, m947, m948, m949, m950, m951⟩ := r946
                  have e952 : k0_2 = fZ H945 0 2 := e934.trans (m947 0 2).symm
                  have m953 : kpM H H945 := kpM_t m935 m951
                  refine g_aload_n rfl ?_
                  refine g_iload_n rfl ?_
                  refine g_invvi hIH945 sm_0 rfl rfl rfl rfl (s_249 a1 H945 hIH945 hJH945) (fun v956 H954 r955 => ?_)
                  obtain rfl := r955
                  refine g_istore (l' := [(0, .ref 0), (1, .int a1), (2, .int a2), (3, .int v930), (4, .int v931), (5, .int v932), (6, .int v956)]) rfl rfl ?_
                  refine g_iload rfl ?_
                  refine g_iload_n rfl ?_
                  refine g_if2_gt (fun c957 => ?_) (fun c957 => ?_)
                  · refine g_iload rfl ?_
                    refine g_istore_n (l' := [(0, .ref 0), (1, .int a1), (2, .int a2), (3, .int v956), (4, .int v931), (5, .int v932), (6, .int v956)]) rfl rfl ?_
                    refine g_aload_n rfl ?_
                    refine g_gfr hIH945 sm_0 rfl ?_
                    refine g_aload_n rfl ?_
                    refine g_gfr hIH945 sm_0 rfl ?_
                    refine g_iload rfl ?_
                    refine g_iaload hIH945 sm_19 rfl (by first | with_reducible assumption | omega) (fun v958 ev958 lv958 uv958 => ?_)
                    refine g_iaload hIH945 sm_18 rfl (by first | with_reducible assumption | omega) (fun v959 ev959 lv959 uv959 => ?_)
                    refine g_istore (l' := [(0, .ref 0), (1, .int a1), (2, .int a2), (3, .int v956), (4, .int v959), (5, .int v932), (6, .int v956)]) rfl rfl ?_
                    refine g_nop ?_
                    refine g_iinc (l' := (fun v960 => [(0, .ref 0), (1, .int a1), (2, .int a2), (3, .int v956), (4, .int v959), (5, .int v960), (6, .int v956)])) rfl rfl (by decide) (by first | with_reducible assumption | omega) (fun _ => rfl) (fun v960 ev960 => ?_)
                    refine g_goto ?_
                    refine gG_pick [0, 1, 2, 3, 4, 5] (l' := [(0, .ref 0), (1, .int a1), (2, .int a2), (3, .int v956), (4, .int v959), (5, .int v960)]) rfl ?_
                    exact ihL936 v956 v959 v960 H945 hIH945 hJH945 e952 m953 (by have := gz_any v956; omega) (by first | with_reducible assumption | omega) (by first | with_reducible assumption | omega)
                  · refine g_goto ?_
                    refine g_iinc (l' := (fun v961 => [(0, .ref 0), (1, .int a1), (2, .int a2), (3, .int v930), (4, .int v931), (5, .int v961), (6, .int v956)])) rfl rfl (by decide) (by first | with_reducible assumption | omega) (fun _ => rfl) (fun v961 ev961 => ?_)
                    refine g_goto ?_
                    refine gG_pick [0, 1, 2, 3, 4, 5] (l' := [(0, .ref 0), (1, .int a1), (2, .int a2), (3, .int v930), (4, .int v931), (5, .int v961)]) rfl ?_
                    exact ihL936 v930 v931 v961 H945 hIH945 hJH945 e952 m953 (by have := gz_any v930; omega) (by first | with_reducible assumption | omega) (by first | with_reducible assumption | omega)
            exact L936 _ v927 v928 v929 H917 hIH917 hJH917 e925 m926 (by have := gz_any v927; omega) (by first | with_reducible assumption | omega) (Nat.lt_succ_self _)
          · refine g_nop ?_
            refine g_iconst (by decide) (fun v962 kv962 => ?_)
            exact g_iret ⟨_, rfl, hIH776, hJH776, (e777.symm.trans ek0_2), m778⟩
set_option maxRecDepth 4000 in
set_option maxHeartbeats 4000000 in
/-- M.travelled -/
theorem s_251 (a1 : Int32) (H : mzH) (hI : gI SM H) (hJ : JN H) : gCall 251 [.ref 0, .int a1] H (gRi (fun v H' => gI SM H' ∧ JN H' ∧ fZ H' 0 2 = fZ H 0 2 ∧ kpM H H')) := by
  obtain ⟨k0_2, ek0_2⟩ : ∃ z, z = fZ H 0 2 := ⟨_, rfl⟩
  have ik0_2 : k0_2.toInt = (fZ H 0 2).toInt := by rw [← ek0_2]
  have bk0_2 : 0 ≤ k0_2.toInt ∧ k0_2.toInt ≤ 900 := by rw [ek0_2]; exact fZ_of hI sm_0 rfl
  have mkfr : kpM H H := kpM_r
  refine gG_call [(0, .ref 0), (1, .int a1)] ⟨rfl, rfl, trivial⟩ ?_
  show gG 6 zB_251 (mzBlk zB_251 0) [(0, .ref 0), (1, .int a1)] [] H 0 0 _
  refine g_aload_n rfl ?_
  refine g_iconst (by decide) (fun v456 kv456 => ?_)
  refine g_pfi hI sm_0 rfl (gz_any _) (fun H457 eH457 hIH457 => ?_)
  have hJH457 : JN H457 := JN_sF eH457 hJ
  have e458 : k0_2 = fZ H457 0 2 := by rw [eH457, fZ_sF_ne (by decide)]; exact ek0_2
  have m459 : kpM H H457 := kpM_F mkfr eH457 (by first | with_reducible assumption | omega)
  refine g_iload_n rfl ?_
  refine g_invti rfl rfl rfl (s_206 a1 H457 hIH457 hJH457) (fun v462 H460 r461 => ?_)
  obtain ⟨rfl, bv462, p463⟩ := r461
  refine g_if_ne (fun c464 => ?_) (fun c464 => ?_)
  · refine g_aload_n rfl ?_
    refine g_iload_n rfl ?_
    refine g_invvv hIH457 sm_0 rfl rfl rfl rfl (s_215 a1 (by first | with_reducible assumption | omega) H457 hIH457 hJH457) (fun H465 r466 => ?_)
    obtain ⟨hIH465, hJH465, w467, m468⟩ := r466
    have e469 : k0_2 = fZ H465 0 2 := e458.trans w467.symm
    have m470 : kpM H H465 := kpM_t m459 m468
    refine g_iconst (by decide) (fun v471 kv471 => ?_)
    refine g_istore_n (l' := [(0, .ref 0), (1, .int a1), (2, .int v471)]) rfl rfl ?_
    refine g_iconst (by decide) (fun v472 kv472 => ?_)
    refine g_istore_n (l' := [(0, .ref 0), (1, .int a1), (2, .int v471), (3, .int v472)]) rfl rfl ?_
    refine g_iconst (by decide) (fun v473 kv473 => ?_)
    refine g_istore (l' := [(0, .ref 0), (1, .int a1), (2, .int v471), (3, .int v472), (4, .int v473)]) rfl rfl ?_
    refine g_nop ?_
    have L477 : ∀ (N : Nat) (v474 : Int32) (v475 : Int32) (v476 : Int32), (-1 ≤ v475.toInt ∧ v475.toInt ≤ 7) → (0 ≤ v476.toInt ∧ v476.toInt ≤ 60) → (60 - v476.toInt).toNat < N → gG 6 zB_251 (mzBlk zB_251 2) [(0, .ref 0), (1, .int a1), (2, .int v474), (3, .int v475), (4, .int v476)] [] H465 0 0 (gRi (fun v H' => gI SM H' ∧ JN H' ∧ fZ H' 0 2 = fZ H 0 2 ∧ kpM H H')) := by
      intro N
      induction N with
      | zero => intro v474 v475 v476 bv475 bv476 hmL477; exact absurd hmL477 (Nat.not_lt_zero _)
      | succ N ihL477 =>
        intro v474 v475 v476 bv475 bv476 hmL477
        refine g_iload rfl ?_
        refine g_aload_n rfl ?_
        refine g_gfi hIH465 sm_0 rfl (fun v478 ev478 lv478 uv478 => ?_)
        refine g_if2_ge (fun c479 => ?_) (fun c479 => ?_)
        · refine g_aload_n rfl ?_
          refine g_gfi hIH465 sm_0 rfl (fun v480 ev480 lv480 uv480 => ?_)
          refine g_if_ne (fun c481 => ?_) (fun c481 => ?_)
          · refine g_iload_n rfl ?_
            refine g_nop ?_
            exact g_iret ⟨_, rfl, hIH465, (JM_n hJH465), (e469.symm.trans ek0_2), m470⟩
          · refine g_bipush (by decide) (fun v482 kv482 => ?_)
            refine g_goto ?_
            exact g_iret ⟨_, rfl, hIH465, (JM_n hJH465), (e469.symm.trans ek0_2), m470⟩
        · refine g_aload_n rfl ?_
          refine g_gfr hIH465 sm_0 rfl ?_
          refine g_iload rfl ?_
          refine g_iaload hIH465 sm_22 rfl (by first | with_reducible assumption | omega) (fun v483 ev483 lv483 uv483 => ?_)
          refine g_istore (l' := [(0, .ref 0), (1, .int a1), (2, .int v474), (3, .int v475), (4, .int v476), (5, .int v483)]) rfl rfl ?_
          refine g_iload rfl ?_
          refine g_if_ge (fun c484 => ?_) (fun c484 => ?_)
          · refine g_iload_n rfl ?_
            refine g_iconst (by decide) (fun v485 kv485 => ?_)
            refine g_if2_eq (fun c486 => ?_) (fun c486 => ?_)
            · refine g_iload rfl ?_
              refine g_istore_n (l' := [(0, .ref 0), (1, .int a1), (2, .int v474), (3, .int v483), (4, .int v476), (5, .int v483)]) rfl rfl ?_
              refine g_nop ?_
              refine g_iinc (l' := (fun v487 => [(0, .ref 0), (1, .int a1), (2, .int v474), (3, .int v483), (4, .int v487), (5, .int v483)])) rfl rfl (by decide) (by first | with_reducible assumption | omega) (fun _ => rfl) (fun v487 ev487 => ?_)
              refine g_goto ?_
              refine gG_pick [0, 1, 2, 3, 4] (l' := [(0, .ref 0), (1, .int a1), (2, .int v474), (3, .int v483), (4, .int v487)]) rfl ?_
              exact ihL477 v474 v483 v487 (by first | with_reducible assumption | omega) (by first | with_reducible assumption | omega) (by first | with_reducible assumption | omega)
            · refine g_aload_n rfl ?_
              refine g_gfr hIH465 sm_0 rfl ?_
              refine g_bipush (by decide) (fun v488 kv488 => ?_)
              refine g_iload_n rfl ?_
              refine g_imulk' (n := 8) kv488 (by first | with_reducible assumption | omega) (fun v489 ev489 => ?_)
              refine g_iload rfl ?_
              refine g_iadd (by first | with_reducible assumption | omega) (fun v490 ev490 => ?_)
              refine g_iaload hIH465 sm_6 rfl (by first | with_reducible assumption | omega) (fun v491 ev491 lv491 uv491 => ?_)
              refine g_ldc (by decide) (fun v492 kv492 => ?_)
              refine g_if2_ge (fun c493 => ?_) (fun c493 => ?_)
              · refine g_iload rfl ?_
                refine g_istore_n (l' := [(0, .ref 0), (1, .int a1), (2, .int v474), (3, .int v483), (4, .int v476), (5, .int v483)]) rfl rfl ?_
                refine g_nop ?_
                refine g_iinc (l' := (fun v494 => [(0, .ref 0), (1, .int a1), (2, .int v474), (3, .int v483), (4, .int v494), (5, .int v483)])) rfl rfl (by decide) (by first | with_reducible assumption | omega) (fun _ => rfl) (fun v494 ev494 => ?_)
                refine g_goto ?_
                refine gG_pick [0, 1, 2, 3, 4] (l' := [(0, .ref 0), (1, .int a1), (2, .int v474), (3, .int v483), (4, .int v494)]) rfl ?_
                exact ihL477 v474 v483 v494 (by first | with_reducible assumption | omega) (by first | with_reducible assumption | omega) (by first | with_reducible assumption | omega)
              · refine g_iload_n rfl ?_
                refine g_aload_n rfl ?_
                refine g_gfr hIH465 sm_0 rfl ?_
                refine g_bipush (by decide) (fun v495 kv495 => ?_)
                refine g_iload_n rfl ?_
                refine g_imulk' (n := 8) kv495 (by first | with_reducible assumption | omega) (fun v496 ev496 => ?_)
                refine g_iload rfl ?_
                refine g_iadd (by first | with_reducible assumption | omega) (fun v497 ev497 => ?_)
                refine g_iaload hIH465 sm_6 rfl (by first | with_reducible assumption | omega) (fun v498 ev498 lv498 uv498 => ?_)
                refine g_iadd' (fun v499 ov499 => ?_)
                refine g_istore_n (l' := [(0, .ref 0), (1, .int a1), (2, .int v499), (3, .int v475), (4, .int v476), (5, .int v483)]) rfl rfl ?_
                refine g_nop ?_
                refine g_iload rfl ?_
                refine g_istore_n (l' := [(0, .ref 0), (1, .int a1), (2, .int v499), (3, .int v483), (4, .int v476), (5, .int v483)]) rfl rfl ?_
                refine g_nop ?_
                refine g_iinc (l' := (fun v500 => [(0, .ref 0), (1, .int a1), (2, .int v499), (3, .int v483), (4, .int v500), (5, .int v483)])) rfl rfl (by decide) (by first | with_reducible assumption | omega) (fun _ => rfl) (fun v500 ev500 => ?_)
                refine g_goto ?_
                refine gG_pick [0, 1, 2, 3, 4] (l' := [(0, .ref 0), (1, .int a1), (2, .int v499), (3, .int v483), (4, .int v500)]) rfl ?_
                exact ihL477 v499 v483 v500 (by first | with_reducible assumption | omega) (by first | with_reducible assumption | omega) (by first | with_reducible assumption | omega)
          · refine g_goto ?_
            refine g_iinc (l' := (fun v501 => [(0, .ref 0), (1, .int a1), (2, .int v474), (3, .int v475), (4, .int v501), (5, .int v483)])) rfl rfl (by decide) (by first | with_reducible assumption | omega) (fun _ => rfl) (fun v501 ev501 => ?_)
            refine g_goto ?_
            refine gG_pick [0, 1, 2, 3, 4] (l' := [(0, .ref 0), (1, .int a1), (2, .int v474), (3, .int v475), (4, .int v501)]) rfl ?_
            exact ihL477 v474 v475 v501 (by first | with_reducible assumption | omega) (by first | with_reducible assumption | omega) (by first | with_reducible assumption | omega)
    exact L477 _ v471 v472 v473 (by first | with_reducible assumption | omega) (by first | with_reducible assumption | omega) (Nat.lt_succ_self _)
  · refine g_iconst (by decide) (fun v502 kv502 => ?_)
    exact g_iret ⟨_, rfl, hIH457, hJH457, (e458.symm.trans ek0_2), m459⟩
set_option maxRecDepth 4000 in
set_option maxHeartbeats 4000000 in
/-- M.lates -/
theorem s_253 (H : mzH) (hI : gI SM H) (hJ : JN H) : gCall 253 [.ref 0] H (gRi (fun v H' => H = H')) := by
  refine gG_call [(0, .ref 0)] ⟨rfl, trivial⟩ ?_
  show gG 3 zB_253 (mzBlk zB_253 0) [(0, .ref 0)] [] H 0 0 _
  refine g_iconst (by decide) (fun v519 kv519 => ?_)
  refine g_istore_n (l' := [(0, .ref 0), (1, .int v519)]) rfl rfl ?_
  refine g_iconst (by decide) (fun v520 kv520 => ?_)
  refine g_istore_n (l' := [(0, .ref 0), (1, .int v519), (2, .int v520)]) rfl rfl ?_
  refine g_nop ?_
  have L523 : ∀ (N : Nat) (v521 : Int32) (v522 : Int32), (0 ≤ v522.toInt ∧ v522.toInt ≤ 60) → (60 - v522.toInt).toNat < N → gG 3 zB_253 (mzBlk zB_253 1) [(0, .ref 0), (1, .int v521), (2, .int v522)] [] H 0 0 (gRi (fun v H' => H = H')) := by
    intro N
    induction N with
    | zero => intro v521 v522 bv522 hmL523; exact absurd hmL523 (Nat.not_lt_zero _)
    | succ N ihL523 =>
      intro v521 v522 bv522 hmL523
      refine g_iload_n rfl ?_
      refine g_aload_n rfl ?_
      refine g_invvi hI sm_0 rfl rfl rfl rfl (s_181 H hI hJ) (fun v526 H524 r525 => ?_)
      obtain ⟨rfl, bv526, p527⟩ := r525
      refine g_if2_ge (fun c528 => ?_) (fun c528 => ?_)
      · refine g_iload_n rfl ?_
        exact g_iret ⟨_, rfl, rfl⟩
      · refine g_iload_n rfl ?_
        refine g_aload_n rfl ?_
        refine g_iload_n rfl ?_
        refine g_invvi hI sm_0 rfl rfl rfl rfl (s_205 v522 (by first | with_reducible assumption | omega) H hI hJ) (fun v531 H529 r530 => ?_)
        obtain ⟨rfl, bv531⟩ := r530
        refine g_if_eq (fun c532 => ?_) (fun c532 => ?_)
        · refine g_iconst (by decide) (fun v533 kv533 => ?_)
          refine g_nop ?_
          refine g_iadd (by have := gz_any v521; omega) (fun v534 ev534 => ?_)
          refine g_istore_n (l' := [(0, .ref 0), (1, .int v534), (2, .int v522)]) rfl rfl ?_
          refine g_iinc (l' := (fun v535 => [(0, .ref 0), (1, .int v534), (2, .int v535)])) rfl rfl (by decide) (by first | with_reducible assumption | omega) (fun _ => rfl) (fun v535 ev535 => ?_)
          refine g_goto ?_
          exact ihL523 v534 v535 (by first | with_reducible assumption | omega) (by first | with_reducible assumption | omega)
        · refine g_iconst (by decide) (fun v536 kv536 => ?_)
          refine g_goto ?_
          refine g_iadd' (fun v537 ov537 => ?_)
          refine g_istore_n (l' := [(0, .ref 0), (1, .int v537), (2, .int v522)]) rfl rfl ?_
          refine g_iinc (l' := (fun v538 => [(0, .ref 0), (1, .int v537), (2, .int v538)])) rfl rfl (by decide) (by first | with_reducible assumption | omega) (fun _ => rfl) (fun v538 ev538 => ?_)
          refine g_goto ?_
          exact ihL523 v537 v538 (by first | with_reducible assumption | omega) (by first | with_reducible assumption | omega)
  exact L523 _ v519 v520 (by first | with_reducible assumption | omega) (Nat.lt_succ_self _)
set_option maxRecDepth 4000 in
set_option maxHeartbeats 4000000 in
/-- M.count -/
theorem s_252 (a1 : Int32) (H : mzH) (hI : gI SM H) (hJ : JN H) : gCall 252 [.ref 0, .int a1] H (gRi (fun v H' => gI SM H' ∧ JN H' ∧ fZ H' 0 2 = fZ H 0 2 ∧ kpM H H')) := by
  obtain ⟨k0_2, ek0_2⟩ : ∃ z, z = fZ H 0 2 := ⟨_, rfl⟩
  have ik0_2 : k0_2.toInt = (fZ H 0 2).toInt := by rw [← ek0_2]
  have bk0_2 : 0 ≤ k0_2.toInt ∧ k0_2.toInt ≤ 900 := by rw [ek0_2]; exact fZ_of hI sm_0 rfl
  have mkfr : kpM H H := kpM_r
  refine gG_call [(0, .ref 0), (1, .int a1)] ⟨rfl, rfl, trivial⟩ ?_
  show gG 2 zB_252 (mzBlk zB_252 0) [(0, .ref 0), (1, .int a1)] [] H 0 0 _
  refine g_aload_n rfl ?_
  refine g_iconst (by decide) (fun v85 kv85 => ?_)
  refine g_pfi hI sm_0 rfl (gz_any _) (fun H86 eH86 hIH86 => ?_)
  have hJH86 : JN H86 := JN_sF eH86 hJ
  have e87 : k0_2 = fZ H86 0 2 := by rw [eH86, fZ_sF_ne (by decide)]; exact ek0_2
  have m88 : kpM H H86 := kpM_F mkfr eH86 (by first | with_reducible assumption | omega)
  refine g_iload_n rfl ?_
  refine g_sw (by decide) (fun c89 => ?_) ⟨fun c89 => ?_, fun c89 => ?_, fun c89 => ?_, fun c89 => ?_, fun c89 => ?_, fun c89 => ?_, fun c89 => ?_, trivial⟩
  · refine g_iconst (by decide) (fun v90 kv90 => ?_)
    exact g_iret ⟨_, rfl, hIH86, hJH86, (e87.symm.trans ek0_2), m88⟩
  · refine g_aload_n rfl ?_
    refine g_gfr hIH86 sm_0 rfl ?_
    refine g_iconst (by decide) (fun v91 kv91 => ?_)
    refine g_iaload hIH86 sm_2 rfl (by first | with_reducible assumption | omega) (fun v92 ev92 lv92 uv92 => ?_)
    have qv92 := JN_n20 hJH86 (v := v92) (by rw [ev92, show v91.toInt.toNat = 0 from by omega])
    exact g_iret ⟨_, rfl, hIH86, hJH86, (e87.symm.trans ek0_2), m88⟩
  · refine g_aload_n rfl ?_
    refine g_gfr hIH86 sm_0 rfl ?_
    refine g_iconst (by decide) (fun v93 kv93 => ?_)
    refine g_iaload hIH86 sm_2 rfl (by first | with_reducible assumption | omega) (fun v94 ev94 lv94 uv94 => ?_)
    exact g_iret ⟨_, rfl, hIH86, hJH86, (e87.symm.trans ek0_2), m88⟩
  · refine g_aload_n rfl ?_
    refine g_invvi hIH86 sm_0 rfl rfl rfl rfl (s_181 H86 hIH86 hJH86) (fun v97 H95 r96 => ?_)
    obtain ⟨rfl, bv97, p98⟩ := r96
    exact g_iret ⟨_, rfl, hIH86, hJH86, (e87.symm.trans ek0_2), m88⟩
  · refine g_aload_n rfl ?_
    refine g_invvi hIH86 sm_0 rfl rfl rfl rfl (s_253 H86 hIH86 hJH86) (fun v101 H99 r100 => ?_)
    obtain rfl := r100
    exact g_iret ⟨_, rfl, hIH86, hJH86, (e87.symm.trans ek0_2), m88⟩
  · refine g_aload_n rfl ?_
    refine g_gfr hIH86 sm_0 rfl ?_
    refine g_iconst (by decide) (fun v102 kv102 => ?_)
    refine g_iaload hIH86 sm_2 rfl (by first | with_reducible assumption | omega) (fun v103 ev103 lv103 uv103 => ?_)
    exact g_iret ⟨_, rfl, hIH86, hJH86, (e87.symm.trans ek0_2), m88⟩
  · refine g_aload_n rfl ?_
    refine g_gfr hIH86 sm_0 rfl ?_
    refine g_iconst (by decide) (fun v104 kv104 => ?_)
    refine g_iaload hIH86 sm_2 rfl (by first | with_reducible assumption | omega) (fun v105 ev105 lv105 uv105 => ?_)
    exact g_iret ⟨_, rfl, hIH86, hJH86, (e87.symm.trans ek0_2), m88⟩
  · refine g_aload_n rfl ?_
    refine g_gfk hIH86 sm_0 rfl e87 ?_
    exact g_iret ⟨_, rfl, hIH86, hJH86, (e87.symm.trans ek0_2), m88⟩
