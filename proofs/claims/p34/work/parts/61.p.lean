set_option maxRecDepth 4000 in
set_option maxHeartbeats 4000000 in
/-- M.cause -/
theorem s_230 (a1 : Int32) (H : mzH) (hI : gI SM H) (hJ : JN H) : gCall 230 [.ref 0, .int a1] H (gRi (fun v H' => gI SM H' ∧ JN H' ∧ fZ H' 0 2 = fZ H 0 2 ∧ kpM H H')) := by
  obtain ⟨k0_2, ek0_2⟩ : ∃ z, z = fZ H 0 2 := ⟨_, rfl⟩
  have ik0_2 : k0_2.toInt = (fZ H 0 2).toInt := by rw [← ek0_2]
  have bk0_2 : 0 ≤ k0_2.toInt ∧ k0_2.toInt ≤ 900 := by rw [ek0_2]; exact fZ_of hI sm_0 rfl
  have mkfr : kpM H H := kpM_r
  refine gG_call [(0, .ref 0), (1, .int a1)] ⟨rfl, rfl, trivial⟩ ?_
  show gG 3 zB_230 (mzBlk zB_230 0) [(0, .ref 0), (1, .int a1)] [] H 0 0 _
  refine g_aload_n rfl ?_
  refine g_iconst (by decide) (fun v355 kv355 => ?_)
  refine g_pfi hI sm_0 rfl (gz_any _) (fun H356 eH356 hIH356 => ?_)
  have hJH356 : JN H356 := JN_sF eH356 hJ
  have e357 : k0_2 = fZ H356 0 2 := by rw [eH356, fZ_sF_ne (by decide)]; exact ek0_2
  have m358 : kpM H H356 := kpM_F mkfr eH356 (by first | with_reducible assumption | omega)
  refine g_iload_n rfl ?_
  refine g_if_lt (fun c359 => ?_) (fun c359 => ?_)
  · refine g_iconst (by decide) (fun v360 kv360 => ?_)
    exact g_iret ⟨_, rfl, hIH356, hJH356, (e357.symm.trans ek0_2), m358⟩
  · refine g_iload_n rfl ?_
    refine g_aload_n rfl ?_
    refine g_invvi hIH356 sm_0 rfl rfl rfl rfl (s_180 H356 hIH356 hJH356) (fun v363 H361 r362 => ?_)
    obtain ⟨rfl, bv363, p364⟩ := r362
    refine g_if2_lt (fun c365 => ?_) (fun c365 => ?_)
    · refine g_aload_n rfl ?_
      refine g_iload_n rfl ?_
      refine g_invvi hIH356 sm_0 rfl rfl rfl rfl (s_229 a1 (by first | with_reducible assumption | omega) H356 hIH356 hJH356) (fun v368 H366 r367 => ?_)
      obtain ⟨hIH366, hJH366, bv368, w369, m370⟩ := r367
      have e371 : k0_2 = fZ H366 0 2 := e357.trans w369.symm
      have m372 : kpM H H366 := kpM_t m358 m370
      refine g_if_ne (fun c373 => ?_) (fun c373 => ?_)
      · refine g_iconst (by decide) (fun v374 kv374 => ?_)
        refine g_istore_n (l' := [(0, .ref 0), (1, .int a1), (2, .int v374)]) rfl rfl ?_
        refine g_nop ?_
        have L379 : ∀ (N : Nat) (v375 : Int32) (H376 : mzH), gI SM H376 → JN H376 → k0_2 = fZ H376 0 2 → kpM H H376 → (0 ≤ v375.toInt ∧ v375.toInt ≤ 60) → (60 - v375.toInt).toNat < N → gG 3 zB_230 (mzBlk zB_230 4) [(0, .ref 0), (1, .int a1), (2, .int v375)] [] H376 0 0 (gRi (fun v H' => gI SM H' ∧ JN H' ∧ fZ H' 0 2 = fZ H 0 2 ∧ kpM H H')) := by
          intro N
          induction N with
          | zero => intro v375 H376 hIH376 hJH376 e377 m378 bv375 hmL379; exact absurd hmL379 (Nat.not_lt_zero _)
          | succ N ihL379 =>
            intro v375 H376 hIH376 hJH376 e377 m378 bv375 hmL379
            refine g_iload_n rfl ?_
            refine g_aload_n rfl ?_
            refine g_invvi hIH376 sm_0 rfl rfl rfl rfl (s_180 H376 hIH376 hJH376) (fun v382 H380 r381 => ?_)
            obtain ⟨rfl, bv382, p383⟩ := r381
            refine g_if2_ge (fun c384 => ?_) (fun c384 => ?_)
            · refine g_bipush (by decide) (fun v385 kv385 => ?_)
              exact g_iret ⟨_, rfl, hIH376, hJH376, (e377.symm.trans ek0_2), m378⟩
            · refine g_iload_n rfl ?_
              refine g_iload_n rfl ?_
              refine g_if2_ne (fun c386 => ?_) (fun c386 => ?_)
              · refine g_aload_n rfl ?_
                refine g_iload_n rfl ?_
                refine g_iconst (by decide) (fun v387 kv387 => ?_)
                refine g_invvv hIH376 sm_0 rfl rfl rfl rfl (s_222 v375 (by first | with_reducible assumption | omega) v387 (by first | with_reducible assumption | omega) H376 hIH376 hJH376) (fun H388 r389 => ?_)
                obtain ⟨hIH388, hJH388, w390, m391⟩ := r389
                have e392 : k0_2 = fZ H388 0 2 := e377.trans w390.symm
                have m393 : kpM H H388 := kpM_t m378 m391
                refine g_aload_n rfl ?_
                refine g_gfr hIH388 sm_0 rfl ?_
                refine g_iload_n rfl ?_
                refine g_iaload hIH388 sm_20 rfl (by first | with_reducible assumption | omega) (fun v394 ev394 lv394 uv394 => ?_)
                refine g_if_ne (fun c395 => ?_) (fun c395 => ?_)
                · refine g_iinc (l' := (fun v396 => [(0, .ref 0), (1, .int a1), (2, .int v396)])) rfl rfl (by decide) (by first | with_reducible assumption | omega) (fun _ => rfl) (fun v396 ev396 => ?_)
                  refine g_goto ?_
                  exact ihL379 v396 H388 hIH388 (JM_n hJH388) e392 m393 (by first | with_reducible assumption | omega) (by first | with_reducible assumption | omega)
                · refine g_iload_n rfl ?_
                  exact g_iret ⟨_, rfl, hIH388, (JM_n hJH388), (e392.symm.trans ek0_2), m393⟩
              · refine g_goto ?_
                refine g_iinc (l' := (fun v397 => [(0, .ref 0), (1, .int a1), (2, .int v397)])) rfl rfl (by decide) (by first | with_reducible assumption | omega) (fun _ => rfl) (fun v397 ev397 => ?_)
                refine g_goto ?_
                exact ihL379 v397 H376 hIH376 hJH376 e377 m378 (by first | with_reducible assumption | omega) (by first | with_reducible assumption | omega)
        exact L379 _ v374 H366 hIH366 hJH366 e371 m372 (by first | with_reducible assumption | omega) (Nat.lt_succ_self _)
      · refine g_bipush (by decide) (fun v398 kv398 => ?_)
        exact g_iret ⟨_, rfl, hIH366, hJH366, (e371.symm.trans ek0_2), m372⟩
    · refine g_nop ?_
      refine g_iconst (by decide) (fun v399 kv399 => ?_)
      exact g_iret ⟨_, rfl, hIH356, hJH356, (e357.symm.trans ek0_2), m358⟩
set_option maxRecDepth 4000 in
set_option maxHeartbeats 4000000 in
/-- M.needs -/
theorem s_231 (a1 : Int32) (a2 : Int32) (H : mzH) (hI : gI SM H) (hJ : JN H) : gCall 231 [.ref 0, .int a1, .int a2] H (gRi (fun v H' => gI SM H' ∧ JN H' ∧ fZ H' 0 2 = fZ H 0 2 ∧ kpM H H')) := by
  obtain ⟨k0_2, ek0_2⟩ : ∃ z, z = fZ H 0 2 := ⟨_, rfl⟩
  have ik0_2 : k0_2.toInt = (fZ H 0 2).toInt := by rw [← ek0_2]
  have bk0_2 : 0 ≤ k0_2.toInt ∧ k0_2.toInt ≤ 900 := by rw [ek0_2]; exact fZ_of hI sm_0 rfl
  have mkfr : kpM H H := kpM_r
  refine gG_call [(0, .ref 0), (1, .int a1), (2, .int a2)] ⟨rfl, rfl, rfl, trivial⟩ ?_
  show gG 5 zB_231 (mzBlk zB_231 0) [(0, .ref 0), (1, .int a1), (2, .int a2)] [] H 0 0 _
  refine g_aload_n rfl ?_
  refine g_iconst (by decide) (fun v433 kv433 => ?_)
  refine g_pfi hI sm_0 rfl (gz_any _) (fun H434 eH434 hIH434 => ?_)
  have hJH434 : JN H434 := JN_sF eH434 hJ
  have e435 : k0_2 = fZ H434 0 2 := by rw [eH434, fZ_sF_ne (by decide)]; exact ek0_2
  have m436 : kpM H H434 := kpM_F mkfr eH434 (by first | with_reducible assumption | omega)
  refine g_iload_n rfl ?_
  refine g_if_lt (fun c437 => ?_) (fun c437 => ?_)
  · refine g_iconst (by decide) (fun v438 kv438 => ?_)
    exact g_iret ⟨_, rfl, hIH434, hJH434, (e435.symm.trans ek0_2), m436⟩
  · refine g_iload_n rfl ?_
    refine g_aload_n rfl ?_
    refine g_invvi hIH434 sm_0 rfl rfl rfl rfl (s_180 H434 hIH434 hJH434) (fun v441 H439 r440 => ?_)
    obtain ⟨rfl, bv441, p442⟩ := r440
    refine g_if2_ge (fun c443 => ?_) (fun c443 => ?_)
    · refine g_iconst (by decide) (fun v444 kv444 => ?_)
      exact g_iret ⟨_, rfl, hIH434, hJH434, (e435.symm.trans ek0_2), m436⟩
    · refine g_iload_n rfl ?_
      refine g_if_ge (fun c445 => ?_) (fun c445 => ?_)
      · refine g_aload_n rfl ?_
        refine g_iload_n rfl ?_
        refine g_invvi hIH434 sm_0 rfl rfl rfl rfl (s_229 a1 (by first | with_reducible assumption | omega) H434 hIH434 hJH434) (fun v448 H446 r447 => ?_)
        obtain ⟨hIH446, hJH446, bv448, w449, m450⟩ := r447
        have e451 : k0_2 = fZ H446 0 2 := e435.trans w449.symm
        have m452 : kpM H H446 := kpM_t m436 m450
        refine g_if_eq (fun c453 => ?_) (fun c453 => ?_)
        · refine g_iload_n rfl ?_
          refine g_istore_n (l' := [(0, .ref 0), (1, .int a1), (2, .int a2), (3, .int a2)]) rfl rfl ?_
          refine g_iconst (by decide) (fun v454 kv454 => ?_)
          refine g_istore (l' := [(0, .ref 0), (1, .int a1), (2, .int a2), (3, .int a2), (4, .int v454)]) rfl rfl ?_
          refine g_nop ?_
          have L460 : ∀ (N : Nat) (v455 : Int32) (v456 : Int32) (H457 : mzH), gI SM H457 → JN H457 → k0_2 = fZ H457 0 2 → kpM H H457 → (0 ≤ v455.toInt ∧ v455.toInt ≤ 2147483647) → (0 ≤ v456.toInt ∧ v456.toInt ≤ 60) → (60 - v456.toInt).toNat < N → gG 5 zB_231 (mzBlk zB_231 4) [(0, .ref 0), (1, .int a1), (2, .int a2), (3, .int v455), (4, .int v456)] [] H457 0 0 (gRi (fun v H' => gI SM H' ∧ JN H' ∧ fZ H' 0 2 = fZ H 0 2 ∧ kpM H H')) := by
            intro N
            induction N with
            | zero => intro v455 v456 H457 hIH457 hJH457 e458 m459 bv455 bv456 hmL460; exact absurd hmL460 (Nat.not_lt_zero _)
            | succ N ihL460 =>
              intro v455 v456 H457 hIH457 hJH457 e458 m459 bv455 bv456 hmL460
              refine g_iload rfl ?_
              refine g_aload_n rfl ?_
              refine g_invvi hIH457 sm_0 rfl rfl rfl rfl (s_180 H457 hIH457 hJH457) (fun v463 H461 r462 => ?_)
              obtain ⟨rfl, bv463, p464⟩ := r462
              refine g_if2_ge (fun c465 => ?_) (fun c465 => ?_)
              · refine g_bipush (by decide) (fun v466 kv466 => ?_)
                exact g_iret ⟨_, rfl, hIH457, hJH457, (e458.symm.trans ek0_2), m459⟩
              · refine g_iload rfl ?_
                refine g_iload_n rfl ?_
                refine g_if2_ne (fun c467 => ?_) (fun c467 => ?_)
                · refine g_aload_n rfl ?_
                  refine g_iload rfl ?_
                  refine g_iconst (by decide) (fun v468 kv468 => ?_)
                  refine g_invvv hIH457 sm_0 rfl rfl rfl rfl (s_222 v456 (by first | with_reducible assumption | omega) v468 (by first | with_reducible assumption | omega) H457 hIH457 hJH457) (fun H469 r470 => ?_)
                  obtain ⟨hIH469, hJH469, w471, m472⟩ := r470
                  have e473 : k0_2 = fZ H469 0 2 := e458.trans w471.symm
                  have m474 : kpM H H469 := kpM_t m459 m472
                  refine g_aload_n rfl ?_
                  refine g_gfr hIH469 sm_0 rfl ?_
                  refine g_iload_n rfl ?_
                  refine g_iaload hIH469 sm_20 rfl (by first | with_reducible assumption | omega) (fun v475 ev475 lv475 uv475 => ?_)
                  refine g_if_ne (fun c476 => ?_) (fun c476 => ?_)
                  · refine g_iload_n rfl ?_
                    refine g_if_ne (fun c477 => ?_) (fun c477 => ?_)
                    · refine g_iinc (l' := (fun v478 => [(0, .ref 0), (1, .int a1), (2, .int a2), (3, .int v478), (4, .int v456)])) rfl rfl (by decide) (by have := gz_any v455; omega) (fun _ => rfl) (fun v478 ev478 => ?_)
                      refine g_nop ?_
                      refine g_iinc (l' := (fun v479 => [(0, .ref 0), (1, .int a1), (2, .int a2), (3, .int v478), (4, .int v479)])) rfl rfl (by decide) (by first | with_reducible assumption | omega) (fun _ => rfl) (fun v479 ev479 => ?_)
                      refine g_goto ?_
                      exact ihL460 v478 v479 H469 hIH469 (JM_n hJH469) e473 m474 (by have := gz_any v478; omega) (by first | with_reducible assumption | omega) (by first | with_reducible assumption | omega)
                    · refine g_iload rfl ?_
                      exact g_iret ⟨_, rfl, hIH469, (JM_n hJH469), (e473.symm.trans ek0_2), m474⟩
                  · refine g_goto ?_
                    refine g_iinc (l' := (fun v480 => [(0, .ref 0), (1, .int a1), (2, .int a2), (3, .int v455), (4, .int v480)])) rfl rfl (by decide) (by first | with_reducible assumption | omega) (fun _ => rfl) (fun v480 ev480 => ?_)
                    refine g_goto ?_
                    exact ihL460 v455 v480 H469 hIH469 (JM_n hJH469) e473 m474 (by have := gz_any v455; omega) (by first | with_reducible assumption | omega) (by first | with_reducible assumption | omega)
                · refine g_goto ?_
                  refine g_iinc (l' := (fun v481 => [(0, .ref 0), (1, .int a1), (2, .int a2), (3, .int v455), (4, .int v481)])) rfl rfl (by decide) (by first | with_reducible assumption | omega) (fun _ => rfl) (fun v481 ev481 => ?_)
                  refine g_goto ?_
                  exact ihL460 v455 v481 H457 hIH457 hJH457 e458 m459 (by have := gz_any v455; omega) (by first | with_reducible assumption | omega) (by first | with_reducible assumption | omega)
          exact L460 _ a2 v454 H446 hIH446 hJH446 e451 m452 (by have := gz_any a2; omega) (by first | with_reducible assumption | omega) (Nat.lt_succ_self _)
        · refine g_bipush (by decide) (fun v482 kv482 => ?_)
          exact g_iret ⟨_, rfl, hIH446, hJH446, (e451.symm.trans ek0_2), m452⟩
      · refine g_nop ?_
        refine g_iconst (by decide) (fun v483 kv483 => ?_)
        exact g_iret ⟨_, rfl, hIH434, hJH434, (e435.symm.trans ek0_2), m436⟩
set_option maxRecDepth 4000 in
set_option maxHeartbeats 4000000 in
/-- M.runsAt -/
theorem s_232 (a1 : Int32) (ha1 : 0 ≤ a1.toInt ∧ a1.toInt ≤ 59) (a2 : Int32) (H : mzH) (hI : gI SM H) (hJ : JN H) : gCall 232 [.ref 0, .int a1, .int a2] H (gRv (fun H' => gI SM H' ∧ JM H' ∧ fZ H' 0 2 = fZ H 0 2 ∧ kpM H H')) := by
  obtain ⟨k0_2, ek0_2⟩ : ∃ z, z = fZ H 0 2 := ⟨_, rfl⟩
  have ik0_2 : k0_2.toInt = (fZ H 0 2).toInt := by rw [← ek0_2]
  have bk0_2 : 0 ≤ k0_2.toInt ∧ k0_2.toInt ≤ 900 := by rw [ek0_2]; exact fZ_of hI sm_0 rfl
  have mkfr : kpM H H := kpM_r
  refine gG_call [(0, .ref 0), (1, .int a1), (2, .int a2)] ⟨rfl, rfl, rfl, trivial⟩ ?_
  show gG 3 zB_232 (mzBlk zB_232 0) [(0, .ref 0), (1, .int a1), (2, .int a2)] [] H 0 0 _
  refine g_aload_n rfl ?_
  refine g_invvv hI sm_0 rfl rfl rfl rfl (s_182 H hI hJ) (fun H85 r86 => ?_)
  obtain ⟨hIH85, hJH85, m87, m88, m89, p90⟩ := r86
  have e91 : k0_2 = fZ H85 0 2 := ek0_2.trans (m87 0 2).symm
  have m92 : kpM H H85 := kpM_t mkfr m89
  refine g_aload_n rfl ?_
  refine g_gfr hIH85 sm_0 rfl ?_
  refine g_iload_n rfl ?_
  refine g_iload_n rfl ?_
  refine g_iastore hIH85 sm_18 (by first | with_reducible assumption | omega) (gz_any _) (fun H93 eH93 hIH93 => ?_)
  have hJH93 : JN H93 := JN_sA (by decide) eH93 hJH85
  have e94 : k0_2 = fZ H93 0 2 := by rw [eH93, fZ_sA]; exact e91
  have m95 : kpM H H93 := kpM_A m92 eH93 (by first | with_reducible assumption | omega)
  refine g_aload_n rfl ?_
  refine g_sipush (by decide) (fun v96 kv96 => ?_)
  refine g_invvv hIH93 sm_0 rfl rfl rfl rfl (s_198 v96 H93 hIH93 hJH93) (fun H97 r98 => ?_)
  obtain ⟨hIH97, hJH97, w99, m100, m101, m102, p103⟩ := r98
  have e104 : k0_2 = fZ H97 0 2 := e94.trans w99.symm
  have m105 : kpM H H97 := kpM_t m95 m102
  exact g_ret ⟨rfl, hIH97, hJH97, (e104.symm.trans ek0_2), m105⟩
set_option maxRecDepth 4000 in
set_option maxHeartbeats 4000000 in
/-- M.ifAt -/
theorem s_233 (a1 : Int32) (a2 : Int32) (a3 : Int32) (H : mzH) (hI : gI SM H) (hJ : JN H) : gCall 233 [.ref 0, .int a1, .int a2, .int a3] H (gRi (fun v H' => gI SM H' ∧ JN H' ∧ fZ H' 0 2 = fZ H 0 2 ∧ kpM H H')) := by
  obtain ⟨k0_2, ek0_2⟩ : ∃ z, z = fZ H 0 2 := ⟨_, rfl⟩
  have ik0_2 : k0_2.toInt = (fZ H 0 2).toInt := by rw [← ek0_2]
  have bk0_2 : 0 ≤ k0_2.toInt ∧ k0_2.toInt ≤ 900 := by rw [ek0_2]; exact fZ_of hI sm_0 rfl
  have mkfr : kpM H H := kpM_r
  refine gG_call [(0, .ref 0), (1, .int a1), (2, .int a2), (3, .int a3)] ⟨rfl, rfl, rfl, rfl, trivial⟩ ?_
  show gG 4 zB_233 (mzBlk zB_233 0) [(0, .ref 0), (1, .int a1), (2, .int a2), (3, .int a3)] [] H 0 0 _
  refine g_aload_n rfl ?_
  refine g_iconst (by decide) (fun v189 kv189 => ?_)
  refine g_pfi hI sm_0 rfl (gz_any _) (fun H190 eH190 hIH190 => ?_)
  have hJH190 : JN H190 := JN_sF eH190 hJ
  have e191 : k0_2 = fZ H190 0 2 := by rw [eH190, fZ_sF_ne (by decide)]; exact ek0_2
  have m192 : kpM H H190 := kpM_F mkfr eH190 (by first | with_reducible assumption | omega)
  refine g_iload_n rfl ?_
  refine g_if_lt (fun c193 => ?_) (fun c193 => ?_)
  · refine g_sipush (by decide) (fun v194 kv194 => ?_)
    exact g_iret ⟨_, rfl, hIH190, hJH190, (e191.symm.trans ek0_2), m192⟩
  · refine g_iload_n rfl ?_
    refine g_aload_n rfl ?_
    refine g_invvi hIH190 sm_0 rfl rfl rfl rfl (s_180 H190 hIH190 hJH190) (fun v197 H195 r196 => ?_)
    obtain ⟨rfl, bv197, p198⟩ := r196
    refine g_if2_ge (fun c199 => ?_) (fun c199 => ?_)
    · refine g_sipush (by decide) (fun v200 kv200 => ?_)
      exact g_iret ⟨_, rfl, hIH190, hJH190, (e191.symm.trans ek0_2), m192⟩
    · refine g_iload_n rfl ?_
      refine g_invti rfl rfl rfl (s_206 a2 H190 hIH190 hJH190) (fun v203 H201 r202 => ?_)
      obtain ⟨rfl, bv203⟩ := r202
      refine g_if_eq (fun c204 => ?_) (fun c204 => ?_)
      · refine g_sipush (by decide) (fun v205 kv205 => ?_)
        exact g_iret ⟨_, rfl, hIH190, hJH190, (e191.symm.trans ek0_2), m192⟩
      · refine g_iload_n rfl ?_
        refine g_iconst (by decide) (fun v206 kv206 => ?_)
        refine g_if2_eq (fun c207 => ?_) (fun c207 => ?_)
        · refine g_aload_n rfl ?_
          refine g_iload_n rfl ?_
          refine g_iload_n rfl ?_
          refine g_invvv hIH190 sm_0 rfl rfl rfl rfl (s_232 a1 (by first | with_reducible assumption | omega) a2 H190 hIH190 hJH190) (fun H208 r209 => ?_)
          obtain ⟨hIH208, hJH208, w210, m211⟩ := r209
          have e212 : k0_2 = fZ H208 0 2 := e191.trans w210.symm
          have m213 : kpM H H208 := kpM_t m192 m211
          refine g_iload_n rfl ?_
          refine g_iconst (by decide) (fun v214 kv214 => ?_)
          refine g_if2_ne (fun c215 => ?_) (fun c215 => ?_)
          · exfalso; omega
          · refine g_aload_n rfl ?_
            refine g_invvi hIH208 sm_0 rfl rfl rfl rfl (s_224 H208 hIH208 (JM_n hJH208)) (fun v218 H216 r217 => ?_)
            obtain rfl := r217
            refine g_goto ?_
            exact g_iret ⟨_, rfl, hIH208, (JM_n hJH208), (e212.symm.trans ek0_2), m213⟩
        · refine g_iload_n rfl ?_
          refine g_invti rfl rfl rfl (s_205 a3 H190 hIH190 hJH190) (fun v221 H219 r220 => ?_)
          obtain ⟨rfl, bv221, p222⟩ := r220
          refine g_if_ne (fun c223 => ?_) (fun c223 => ?_)
          · refine g_aload_n rfl ?_
            refine g_iload_n rfl ?_
            refine g_iload_n rfl ?_
            refine g_invvv hIH190 sm_0 rfl rfl rfl rfl (s_232 a1 (by first | with_reducible assumption | omega) a2 H190 hIH190 hJH190) (fun H224 r225 => ?_)
            obtain ⟨hIH224, hJH224, w226, m227⟩ := r225
            have e228 : k0_2 = fZ H224 0 2 := e191.trans w226.symm
            have m229 : kpM H H224 := kpM_t m192 m227
            refine g_iload_n rfl ?_
            refine g_iconst (by decide) (fun v230 kv230 => ?_)
            refine g_if2_ne (fun c231 => ?_) (fun c231 => ?_)
            · refine g_aload_n rfl ?_
              refine g_iload_n rfl ?_
              refine g_invvi hIH224 sm_0 rfl rfl rfl rfl (s_201 a3 (by first | with_reducible assumption | omega) H224 hIH224 hJH224) (fun v234 H232 r233 => ?_)
              obtain ⟨rfl, bv234⟩ := r233
              refine g_nop ?_
              exact g_iret ⟨_, rfl, hIH224, (JM_n hJH224), (e228.symm.trans ek0_2), m229⟩
            · exfalso; omega
          · refine g_nop ?_
            refine g_sipush (by decide) (fun v235 kv235 => ?_)
            exact g_iret ⟨_, rfl, hIH190, hJH190, (e191.symm.trans ek0_2), m192⟩
set_option maxRecDepth 4000 in
set_option maxHeartbeats 4000000 in
/-- M.window -/
theorem s_234 (a1 : Int32) (a2 : Int32) (H : mzH) (hI : gI SM H) (hJ : JN H) : gCall 234 [.ref 0, .int a1, .int a2] H (gRi (fun v H' => gI SM H' ∧ JN H' ∧ fZ H' 0 2 = fZ H 0 2 ∧ kpM H H')) := by
  obtain ⟨k0_2, ek0_2⟩ : ∃ z, z = fZ H 0 2 := ⟨_, rfl⟩
  have ik0_2 : k0_2.toInt = (fZ H 0 2).toInt := by rw [← ek0_2]
  have bk0_2 : 0 ≤ k0_2.toInt ∧ k0_2.toInt ≤ 900 := by rw [ek0_2]; exact fZ_of hI sm_0 rfl
  have mkfr : kpM H H := kpM_r
  refine gG_call [(0, .ref 0), (1, .int a1), (2, .int a2)] ⟨rfl, rfl, rfl, trivial⟩ ?_
  show gG 7 zB_234 (mzBlk zB_234 0) [(0, .ref 0), (1, .int a1), (2, .int a2)] [] H 0 0 _
  refine g_aload_n rfl ?_
  refine g_iconst (by decide) (fun v731 kv731 => ?_)
  refine g_pfi hI sm_0 rfl (gz_any _) (fun H732 eH732 hIH732 => ?_)
  have hJH732 : JN H732 := JN_sF eH732 hJ
  have e733 : k0_2 = fZ H732 0 2 := by rw [eH732, fZ_sF_ne (by decide)]; exact ek0_2
  have m734 : kpM H H732 := kpM_F mkfr eH732 (by first | with_reducible assumption | omega)
  refine g_iload_n rfl ?_
  refine g_if_lt (fun c735 => ?_) (fun c735 => ?_)
  · refine g_iconst (by decide) (fun v736 kv736 => ?_)
    exact g_iret ⟨_, rfl, hIH732, hJH732, (e733.symm.trans ek0_2), m734⟩
  · refine g_iload_n rfl ?_
    refine g_aload_n rfl ?_
    refine g_invvi hIH732 sm_0 rfl rfl rfl rfl (s_180 H732 hIH732 hJH732) (fun v739 H737 r738 => ?_)
    obtain ⟨rfl, bv739, p740⟩ := r738
    refine g_if2_ge (fun c741 => ?_) (fun c741 => ?_)
    · refine g_iconst (by decide) (fun v742 kv742 => ?_)
      exact g_iret ⟨_, rfl, hIH732, hJH732, (e733.symm.trans ek0_2), m734⟩
    · refine g_iload_n rfl ?_
      refine g_if_lt (fun c743 => ?_) (fun c743 => ?_)
      · refine g_iconst (by decide) (fun v744 kv744 => ?_)
        exact g_iret ⟨_, rfl, hIH732, hJH732, (e733.symm.trans ek0_2), m734⟩
      · refine g_iload_n rfl ?_
        refine g_iconst (by decide) (fun v745 kv745 => ?_)
        refine g_if2_le (fun c746 => ?_) (fun c746 => ?_)
        · refine g_bipush (by decide) (fun v747 kv747 => ?_)
          refine g_istore_n (l' := [(0, .ref 0), (1, .int a1), (2, .int a2), (3, .int v747)]) rfl rfl ?_
          refine g_bipush (by decide) (fun v748 kv748 => ?_)
          refine g_istore (l' := [(0, .ref 0), (1, .int a1), (2, .int a2), (3, .int v747), (4, .int v748)]) rfl rfl ?_
          refine g_iconst (by decide) (fun v749 kv749 => ?_)
          refine g_istore (l' := [(0, .ref 0), (1, .int a1), (2, .int a2), (3, .int v747), (4, .int v748), (5, .int v749)]) rfl rfl ?_
          refine g_iconst (by decide) (fun v750 kv750 => ?_)
          refine g_istore (l' := [(0, .ref 0), (1, .int a1), (2, .int a2), (3, .int v747), (4, .int v748), (5, .int v749), (6, .int v750)]) rfl rfl ?_
          refine g_nop ?_
          have L758 : ∀ (N : Nat) (v751 : Int32) (v752 : Int32) (v753 : Int32) (v754 : Int32) (H755 : mzH), gI SM H755 → JN H755 → k0_2 = fZ H755 0 2 → kpM H H755 → (-2 ≤ v751.toInt ∧ v751.toInt ≤ 999) → (-2 ≤ v752.toInt ∧ v752.toInt ≤ 999) → (0 ≤ v754.toInt ∧ v754.toInt ≤ 1000) → (1000 - v754.toInt).toNat < N → gG 7 zB_234 (mzBlk zB_234 3) [(0, .ref 0), (1, .int a1), (2, .int a2), (3, .int v751), (4, .int v752), (5, .int v753), (6, .int v754)] [] H755 0 0 (gRi (fun v H' => gI SM H' ∧ JN H' ∧ fZ H' 0 2 = fZ H 0 2 ∧ kpM H H')) := by
            intro N
            induction N with
            | zero => intro v751 v752 v753 v754 H755 hIH755 hJH755 e756 m757 bv751 bv752 bv754 hmL758; exact absurd hmL758 (Nat.not_lt_zero _)
            | succ N ihL758 =>
              intro v751 v752 v753 v754 H755 hIH755 hJH755 e756 m757 bv751 bv752 bv754 hmL758
              refine g_iload rfl ?_
              refine g_sipush (by decide) (fun v759 kv759 => ?_)
              refine g_if2_gt (fun c760 => ?_) (fun c760 => ?_)
              · refine g_iload_n rfl ?_
                refine g_if_ne (fun c761 => ?_) (fun c761 => ?_)
                · refine g_iload_n rfl ?_
                  refine g_iconst (by decide) (fun v762 kv762 => ?_)
                  refine g_if2_ne (fun c763 => ?_) (fun c763 => ?_)
                  · refine g_iload rfl ?_
                    refine g_nop ?_
                    exact g_iret ⟨_, rfl, hIH755, hJH755, (e756.symm.trans ek0_2), m757⟩
                  · refine g_iload rfl ?_
                    refine g_goto ?_
                    exact g_iret ⟨_, rfl, hIH755, hJH755, (e756.symm.trans ek0_2), m757⟩
                · refine g_iload_n rfl ?_
                  refine g_goto ?_
                  exact g_iret ⟨_, rfl, hIH755, hJH755, (e756.symm.trans ek0_2), m757⟩
              · refine g_aload_n rfl ?_
                refine g_iload_n rfl ?_
                refine g_iload rfl ?_
                refine g_invvv hIH755 sm_0 rfl rfl rfl rfl (s_232 a1 (by first | with_reducible assumption | omega) v754 H755 hIH755 hJH755) (fun H764 r765 => ?_)
                obtain ⟨hIH764, hJH764, w766, m767⟩ := r765
                have e768 : k0_2 = fZ H764 0 2 := e756.trans w766.symm
                have m769 : kpM H H764 := kpM_t m757 m767
                refine g_aload_n rfl ?_
                refine g_gfr hIH764 sm_0 rfl ?_
                refine g_iload_n rfl ?_
                refine g_iaload hIH764 sm_20 rfl (by first | with_reducible assumption | omega) (fun v770 ev770 lv770 uv770 => ?_)
                refine g_if_eq (fun c771 => ?_) (fun c771 => ?_)
                · refine g_iload rfl ?_
                  refine g_if_ne (fun c772 => ?_) (fun c772 => ?_)
                  · refine g_iload_n rfl ?_
                    refine g_nop ?_
                    refine g_istore_n (l' := [(0, .ref 0), (1, .int a1), (2, .int a2), (3, .int v751), (4, .int v752), (5, .int v753), (6, .int v754)]) rfl rfl ?_
                    refine g_iload rfl ?_
                    refine g_istore (l' := [(0, .ref 0), (1, .int a1), (2, .int a2), (3, .int v751), (4, .int v754), (5, .int v753), (6, .int v754)]) rfl rfl ?_
                    refine g_iinc' (l' := (fun v773 => [(0, .ref 0), (1, .int a1), (2, .int a2), (3, .int v751), (4, .int v754), (5, .int v773), (6, .int v754)])) rfl rfl (fun _ => rfl) (fun v773 => ?_)
                    refine g_nop ?_
                    refine g_iinc (l' := (fun v774 => [(0, .ref 0), (1, .int a1), (2, .int a2), (3, .int v751), (4, .int v754), (5, .int v773), (6, .int v774)])) rfl rfl (by decide) (by first | with_reducible assumption | omega) (fun _ => rfl) (fun v774 ev774 => ?_)
                    refine g_goto ?_
                    exact ihL758 v751 v754 v773 v774 H764 hIH764 (JM_n hJH764) e768 m769 (by first | with_reducible assumption | omega) (by first | with_reducible assumption | omega) (by first | with_reducible assumption | omega) (by first | with_reducible assumption | omega)
                  · refine g_iload rfl ?_
                    refine g_goto ?_
                    refine g_istore_n (l' := [(0, .ref 0), (1, .int a1), (2, .int a2), (3, .int v754), (4, .int v752), (5, .int v753), (6, .int v754)]) rfl rfl ?_
                    refine g_iload rfl ?_
                    refine g_istore (l' := [(0, .ref 0), (1, .int a1), (2, .int a2), (3, .int v754), (4, .int v754), (5, .int v753), (6, .int v754)]) rfl rfl ?_
                    refine g_iinc (l' := (fun v775 => [(0, .ref 0), (1, .int a1), (2, .int a2), (3, .int v754), (4, .int v754), (5, .int v775), (6, .int v754)])) rfl rfl (by decide) (by first | with_reducible assumption | omega) (fun _ => rfl) (fun v775 ev775 => ?_)
                    refine g_nop ?_
                    refine g_iinc (l' := (fun v776 => [(0, .ref 0), (1, .int a1), (2, .int a2), (3, .int v754), (4, .int v754), (5, .int v775), (6, .int v776)])) rfl rfl (by decide) (by first | with_reducible assumption | omega) (fun _ => rfl) (fun v776 ev776 => ?_)
                    refine g_goto ?_
                    exact ihL758 v754 v754 v775 v776 H764 hIH764 (JM_n hJH764) e768 m769 (by first | with_reducible assumption | omega) (by first | with_reducible assumption | omega) (by first | with_reducible assumption | omega) (by first | with_reducible assumption | omega)
                · refine g_goto ?_
                  refine g_iinc (l' := (fun v777 => [(0, .ref 0), (1, .int a1), (2, .int a2), (3, .int v751), (4, .int v752), (5, .int v753), (6, .int v777)])) rfl rfl (by decide) (by first | with_reducible assumption | omega) (fun _ => rfl) (fun v777 ev777 => ?_)
                  refine g_goto ?_
                  exact ihL758 v751 v752 v753 v777 H764 hIH764 (JM_n hJH764) e768 m769 (by first | with_reducible assumption | omega) (by first | with_reducible assumption | omega) (by first | with_reducible assumption | omega) (by first | with_reducible assumption | omega)
          exact L758 _ v747 v748 v749 v750 H732 hIH732 hJH732 e733 m734 (by first | with_reducible assumption | omega) (by first | with_reducible assumption | omega) (by first | with_reducible assumption | omega) (Nat.lt_succ_self _)
        · refine g_nop ?_
          refine g_iconst (by decide) (fun v778 kv778 => ?_)
          exact g_iret ⟨_, rfl, hIH732, hJH732, (e733.symm.trans ek0_2), m734⟩
set_option maxRecDepth 4000 in
set_option maxHeartbeats 4000000 in
/-- M.meets -/
theorem s_235 (H : mzH) (hI : gI SM H) (hJ : JM H) : gCall 235 [.ref 0] H (gRv (fun H' => gI SM H' ∧ JM H' ∧ (∀ a f, fZ H' a f = fZ H a f) ∧ kpM H H')) := by
  have mkF : ∀ a f, fZ H a f = fZ H a f := fun _ _ => rfl
  have mkfr : kpM H H := kpM_r
  refine gG_call [(0, .ref 0)] ⟨rfl, trivial⟩ ?_
  show gG 2 zB_235 (mzBlk zB_235 0) [(0, .ref 0)] [] H 0 0 _
  refine g_iconst (by decide) (fun v589 kv589 => ?_)
  refine g_istore_n (l' := [(0, .ref 0), (1, .int v589)]) rfl rfl ?_
  refine g_nop ?_
  have L594 : ∀ (N : Nat) (v590 : Int32) (H591 : mzH), gI SM H591 → JM H591 → (∀ a f, fZ H591 a f = fZ H a f) → kpM H H591 → (0 ≤ v590.toInt ∧ v590.toInt ≤ 40) → (40 - v590.toInt).toNat < N → gG 2 zB_235 (mzBlk zB_235 1) [(0, .ref 0), (1, .int v590)] [] H591 0 0 (gRv (fun H' => gI SM H' ∧ JM H' ∧ (∀ a f, fZ H' a f = fZ H a f) ∧ kpM H H')) := by
    intro N
    induction N with
    | zero => intro v590 H591 hIH591 hJH591 m592 m593 bv590 hmL594; exact absurd hmL594 (Nat.not_lt_zero _)
    | succ N ihL594 =>
      intro v590 H591 hIH591 hJH591 m592 m593 bv590 hmL594
      refine g_iload_n rfl ?_
      refine g_bipush (by decide) (fun v595 kv595 => ?_)
      refine g_if2_ge (fun c596 => ?_) (fun c596 => ?_)
      · refine g_iconst (by decide) (fun v597 kv597 => ?_)
        refine g_istore_n (l' := [(0, .ref 0), (1, .int v597)]) rfl rfl ?_
        refine g_nop ?_
        have L602 : ∀ (N : Nat) (v598 : Int32) (H599 : mzH), gI SM H599 → JM H599 → (∀ a f, fZ H599 a f = fZ H a f) → kpM H H599 → (0 ≤ v598.toInt ∧ v598.toInt ≤ 40) → (40 - v598.toInt).toNat < N → gG 2 zB_235 (mzBlk zB_235 3) [(0, .ref 0), (1, .int v598)] [] H599 0 0 (gRv (fun H' => gI SM H' ∧ JM H' ∧ (∀ a f, fZ H' a f = fZ H a f) ∧ kpM H H')) := by
          intro N
          induction N with
          | zero => intro v598 H599 hIH599 hJH599 m600 m601 bv598 hmL602; exact absurd hmL602 (Nat.not_lt_zero _)
          | succ N ihL602 =>
            intro v598 H599 hIH599 hJH599 m600 m601 bv598 hmL602
            refine g_iload_n rfl ?_
            refine g_bipush (by decide) (fun v603 kv603 => ?_)
            refine g_if2_ge (fun c604 => ?_) (fun c604 => ?_)
            · refine g_iconst (by decide) (fun v605 kv605 => ?_)
              refine g_istore_n (l' := [(0, .ref 0), (1, .int v605)]) rfl rfl ?_
              refine g_nop ?_
              have L610 : ∀ (N : Nat) (v606 : Int32) (H607 : mzH), gI SM H607 → JM H607 → (∀ a f, fZ H607 a f = fZ H a f) → kpM H H607 → (0 ≤ v606.toInt ∧ v606.toInt ≤ 40) → (40 - v606.toInt).toNat < N → gG 2 zB_235 (mzBlk zB_235 6) [(0, .ref 0), (1, .int v606)] [] H607 0 0 (gRv (fun H' => gI SM H' ∧ JM H' ∧ (∀ a f, fZ H' a f = fZ H a f) ∧ kpM H H')) := by
                intro N
                induction N with
                | zero => intro v606 H607 hIH607 hJH607 m608 m609 bv606 hmL610; exact absurd hmL610 (Nat.not_lt_zero _)
                | succ N ihL610 =>
                  intro v606 H607 hIH607 hJH607 m608 m609 bv606 hmL610
                  refine g_iload_n rfl ?_
                  refine g_bipush (by decide) (fun v611 kv611 => ?_)
                  refine g_if2_ge (fun c612 => ?_) (fun c612 => ?_)
                  · exact g_ret ⟨rfl, hIH607, hJH607, m608, m609⟩
                  · refine g_aload_n rfl ?_
                    refine g_gfr hIH607 sm_0 rfl ?_
                    refine g_iload_n rfl ?_
                    refine g_baload hIH607 sm_7 rfl (by first | with_reducible assumption | omega) (fun v613 ev613 lv613 uv613 => ?_)
                    refine g_if_eq (fun c614 => ?_) (fun c614 => ?_)
                    · refine g_iinc (l' := (fun v615 => [(0, .ref 0), (1, .int v615)])) rfl rfl (by decide) (by first | with_reducible assumption | omega) (fun _ => rfl) (fun v615 ev615 => ?_)
                      refine g_goto ?_
                      exact ihL610 v615 H607 hIH607 hJH607 m608 m609 (by first | with_reducible assumption | omega) (by first | with_reducible assumption | omega)
                    · refine g_aload_n rfl ?_
                      refine g_gfr hIH607 sm_0 rfl ?_
                      refine g_iload_n rfl ?_
                      refine g_baload hIH607 sm_16 rfl (by first | with_reducible assumption | omega) (fun v616 ev616 lv616 uv616 => ?_)
                      refine g_if_ne (fun c617 => ?_) (fun c617 => ?_)
                      · refine g_iinc (l' := (fun v618 => [(0, .ref 0), (1, .int v618)])) rfl rfl (by decide) (by first | with_reducible assumption | omega) (fun _ => rfl) (fun v618 ev618 => ?_)
                        refine g_goto ?_
                        exact ihL610 v618 H607 hIH607 hJH607 m608 m609 (by first | with_reducible assumption | omega) (by first | with_reducible assumption | omega)
                      · refine g_aload_n rfl ?_
                        refine g_gfr hIH607 sm_0 rfl ?_
                        refine g_aload_n rfl ?_
                        refine g_iload_n rfl ?_
                        refine g_invvi hIH607 sm_0 rfl rfl rfl rfl (s_185 v606 (by first | with_reducible assumption | omega) H607 hIH607 hJH607) (fun v621 H619 r620 => ?_)
                        obtain ⟨rfl, bv621⟩ := r620
                        refine g_baload hIH607 sm_21 rfl (by first | with_reducible assumption | omega) (fun v622 ev622 lv622 uv622 => ?_)
                        refine g_if_eq (fun c623 => ?_) (fun c623 => ?_)
                        · refine g_iinc (l' := (fun v624 => [(0, .ref 0), (1, .int v624)])) rfl rfl (by decide) (by first | with_reducible assumption | omega) (fun _ => rfl) (fun v624 ev624 => ?_)
                          refine g_goto ?_
                          exact ihL610 v624 H607 hIH607 hJH607 m608 m609 (by first | with_reducible assumption | omega) (by first | with_reducible assumption | omega)
                        · refine g_aload_n rfl ?_
                          refine g_gfr hIH607 sm_0 rfl ?_
                          refine g_iload_n rfl ?_
                          refine g_iconst (by decide) (fun v625 kv625 => ?_)
                          refine g_zastore hIH607 sm_25 (by first | with_reducible assumption | omega) (by first | with_reducible assumption | omega) (fun H626 eH626 hIH626 => ?_)
                          have hJH626 : JM H626 := JM_sA (by decide) eH626 hJH607
                          have m627 : ∀ a f, fZ H626 a f = fZ H a f := fun a f => (by rw [eH626, fZ_sA] : fZ H626 a f = fZ H607 a f).trans (m608 a f)
                          have m628 : kpM H H626 := kpM_A m609 eH626 (by first | with_reducible assumption | omega)
                          refine g_nop ?_
                          refine g_iinc (l' := (fun v629 => [(0, .ref 0), (1, .int v629)])) rfl rfl (by decide) (by first | with_reducible assumption | omega) (fun _ => rfl) (fun v629 ev629 => ?_)
                          refine g_goto ?_
                          exact ihL610 v629 H626 hIH626 hJH626 m627 m628 (by first | with_reducible assumption | omega) (by first | with_reducible assumption | omega)
              exact L610 _ v605 H599 hIH599 hJH599 m600 m601 (by first | with_reducible assumption | omega) (Nat.lt_succ_self _)
            · refine g_aload_n rfl ?_
              refine g_gfr hIH599 sm_0 rfl ?_
              refine g_iload_n rfl ?_
              refine g_baload hIH599 sm_25 rfl (by first | with_reducible assumption | omega) (fun v630 ev630 lv630 uv630 => ?_)
              refine g_if_eq (fun c631 => ?_) (fun c631 => ?_)
              · refine g_iinc (l' := (fun v632 => [(0, .ref 0), (1, .int v632)])) rfl rfl (by decide) (by first | with_reducible assumption | omega) (fun _ => rfl) (fun v632 ev632 => ?_)
                refine g_goto ?_
                exact ihL602 v632 H599 hIH599 hJH599 m600 m601 (by first | with_reducible assumption | omega) (by first | with_reducible assumption | omega)
              · refine g_aload_n rfl ?_
                refine g_gfr hIH599 sm_0 rfl ?_
                refine g_iload_n rfl ?_
                refine g_baload hIH599 sm_7 rfl (by first | with_reducible assumption | omega) (fun v633 ev633 lv633 uv633 => ?_)
                refine g_if_eq (fun c634 => ?_) (fun c634 => ?_)
                · refine g_iinc (l' := (fun v635 => [(0, .ref 0), (1, .int v635)])) rfl rfl (by decide) (by first | with_reducible assumption | omega) (fun _ => rfl) (fun v635 ev635 => ?_)
                  refine g_goto ?_
                  exact ihL602 v635 H599 hIH599 hJH599 m600 m601 (by first | with_reducible assumption | omega) (by first | with_reducible assumption | omega)
                · refine g_aload_n rfl ?_
                  refine g_gfr hIH599 sm_0 rfl ?_
                  refine g_iload_n rfl ?_
                  refine g_baload hIH599 sm_16 rfl (by first | with_reducible assumption | omega) (fun v636 ev636 lv636 uv636 => ?_)
                  refine g_if_ne (fun c637 => ?_) (fun c637 => ?_)
                  · refine g_iinc (l' := (fun v638 => [(0, .ref 0), (1, .int v638)])) rfl rfl (by decide) (by first | with_reducible assumption | omega) (fun _ => rfl) (fun v638 ev638 => ?_)
                    refine g_goto ?_
                    exact ihL602 v638 H599 hIH599 hJH599 m600 m601 (by first | with_reducible assumption | omega) (by first | with_reducible assumption | omega)
                  · refine g_aload_n rfl ?_
                    refine g_gfr hIH599 sm_0 rfl ?_
                    refine g_aload_n rfl ?_
                    refine g_iload_n rfl ?_
                    refine g_invvi hIH599 sm_0 rfl rfl rfl rfl (s_185 v598 (by first | with_reducible assumption | omega) H599 hIH599 hJH599) (fun v641 H639 r640 => ?_)
                    obtain ⟨rfl, bv641⟩ := r640
                    refine g_iconst (by decide) (fun v642 kv642 => ?_)
                    refine g_zastore hIH599 sm_21 (by first | with_reducible assumption | omega) (by first | with_reducible assumption | omega) (fun H643 eH643 hIH643 => ?_)
                    have hJH643 : JM H643 := JM_sA (by decide) eH643 hJH599
                    have m644 : ∀ a f, fZ H643 a f = fZ H a f := fun a f => (by rw [eH643, fZ_sA] : fZ H643 a f = fZ H599 a f).trans (m600 a f)
                    have m645 : kpM H H643 := kpM_A m601 eH643 (by first | with_reducible assumption | omega)
                    refine g_nop ?_
                    refine g_iinc (l' := (fun v646 => [(0, .ref 0), (1, .int v646)])) rfl rfl (by decide) (by first | with_reducible assumption | omega) (fun _ => rfl) (fun v646 ev646 => ?_)
                    refine g_goto ?_
                    exact ihL602 v646 H643 hIH643 hJH643 m644 m645 (by first | with_reducible assumption | omega) (by first | with_reducible assumption | omega)
        exact L602 _ v597 H591 hIH591 hJH591 m592 m593 (by first | with_reducible assumption | omega) (Nat.lt_succ_self _)
      · refine g_aload_n rfl ?_
        refine g_gfr hIH591 sm_0 rfl ?_
        refine g_iload_n rfl ?_
        refine g_iconst (by decide) (fun v647 kv647 => ?_)
        refine g_zastore hIH591 sm_21 (by first | with_reducible assumption | omega) (by first | with_reducible assumption | omega) (fun H648 eH648 hIH648 => ?_)
        have hJH648 : JM H648 := JM_sA (by decide) eH648 hJH591
        have m649 : ∀ a f, fZ H648 a f = fZ H a f := fun a f => (by rw [eH648, fZ_sA] : fZ H648 a f = fZ H591 a f).trans (m592 a f)
        have m650 : kpM H H648 := kpM_A m593 eH648 (by first | with_reducible assumption | omega)
        refine g_iinc (l' := (fun v651 => [(0, .ref 0), (1, .int v651)])) rfl rfl (by decide) (by first | with_reducible assumption | omega) (fun _ => rfl) (fun v651 ev651 => ?_)
        refine g_goto ?_
        exact ihL594 v651 H648 hIH648 hJH648 m649 m650 (by first | with_reducible assumption | omega) (by first | with_reducible assumption | omega)
  exact L594 _ v589 H hI hJ mkF mkfr (by first | with_reducible assumption | omega) (Nat.lt_succ_self _)
set_option maxRecDepth 4000 in
set_option maxHeartbeats 4000000 in
/-- M.pick -/
theorem s_236 (a1 : Int32) (H : mzH) (hI : gI SM H) (hJ : JN H) : gCall 236 [.ref 25, .int a1] H (gRi (fun v H' => H = H')) := by
  refine gG_call [(0, .ref 25), (1, .int a1)] ⟨rfl, rfl, trivial⟩ ?_
  show gG 4 zB_236 (mzBlk zB_236 0) [(0, .ref 25), (1, .int a1)] [] H 0 0 _
  refine g_iload_n rfl ?_
  refine g_istore_n (l' := [(0, .ref 25), (1, .int a1), (2, .int a1)]) rfl rfl ?_
  refine g_iconst (by decide) (fun v141 kv141 => ?_)
  refine g_istore_n (l' := [(0, .ref 25), (1, .int a1), (2, .int a1), (3, .int v141)]) rfl rfl ?_
  refine g_nop ?_
  have L144 : ∀ (N : Nat) (v142 : Int32) (v143 : Int32), (0 ≤ v143.toInt ∧ v143.toInt ≤ 40) → (40 - v143.toInt).toNat < N → gG 4 zB_236 (mzBlk zB_236 1) [(0, .ref 25), (1, .int a1), (2, .int v142), (3, .int v143)] [] H 0 0 (gRi (fun v H' => H = H')) := by
    intro N
    induction N with
    | zero => intro v142 v143 bv143 hmL144; exact absurd hmL144 (Nat.not_lt_zero _)
    | succ N ihL144 =>
      intro v142 v143 bv143 hmL144
      refine g_iload_n rfl ?_
      refine g_bipush (by decide) (fun v145 kv145 => ?_)
      refine g_if2_ge (fun c146 => ?_) (fun c146 => ?_)
      · refine g_bipush (by decide) (fun v147 kv147 => ?_)
        exact g_iret ⟨_, rfl, rfl⟩
      · refine g_aload_n rfl ?_
        refine g_iload_n rfl ?_
        refine g_baload hI sm_25 rfl (by first | with_reducible assumption | omega) (fun v148 ev148 lv148 uv148 => ?_)
        refine g_if_ne (fun c149 => ?_) (fun c149 => ?_)
        · refine g_iload_n rfl ?_
          refine g_if_ne (fun c150 => ?_) (fun c150 => ?_)
          · refine g_iinc' (l' := (fun v151 => [(0, .ref 25), (1, .int a1), (2, .int v151), (3, .int v143)])) rfl rfl (fun _ => rfl) (fun v151 => ?_)
            refine g_nop ?_
            refine g_iinc (l' := (fun v152 => [(0, .ref 25), (1, .int a1), (2, .int v151), (3, .int v152)])) rfl rfl (by decide) (by first | with_reducible assumption | omega) (fun _ => rfl) (fun v152 ev152 => ?_)
            refine g_goto ?_
            exact ihL144 v151 v152 (by first | with_reducible assumption | omega) (by first | with_reducible assumption | omega)
          · refine g_iload_n rfl ?_
            exact g_iret ⟨_, rfl, rfl⟩
        · refine g_goto ?_
          refine g_iinc (l' := (fun v153 => [(0, .ref 25), (1, .int a1), (2, .int v142), (3, .int v153)])) rfl rfl (by decide) (by first | with_reducible assumption | omega) (fun _ => rfl) (fun v153 ev153 => ?_)
          refine g_goto ?_
          exact ihL144 v142 v153 (by first | with_reducible assumption | omega) (by first | with_reducible assumption | omega)
  exact L144 _ a1 v141 (by first | with_reducible assumption | omega) (Nat.lt_succ_self _)
set_option maxRecDepth 4000 in
set_option maxHeartbeats 4000000 in
/-- M.met -/
theorem s_237 (a1 : Int32) (a2 : Int32) (a3 : Int32) (H : mzH) (hI : gI SM H) (hJ : JN H) : gCall 237 [.ref 0, .int a1, .int a2, .int a3] H (gRi (fun v H' => gI SM H' ∧ JN H' ∧ fZ H' 0 2 = fZ H 0 2 ∧ kpM H H')) := by
  obtain ⟨k0_2, ek0_2⟩ : ∃ z, z = fZ H 0 2 := ⟨_, rfl⟩
  have ik0_2 : k0_2.toInt = (fZ H 0 2).toInt := by rw [← ek0_2]
  have bk0_2 : 0 ≤ k0_2.toInt ∧ k0_2.toInt ≤ 900 := by rw [ek0_2]; exact fZ_of hI sm_0 rfl
  have mkfr : kpM H H := kpM_r
  refine gG_call [(0, .ref 0), (1, .int a1), (2, .int a2), (3, .int a3)] ⟨rfl, rfl, rfl, rfl, trivial⟩ ?_
  show gG 5 zB_237 (mzBlk zB_237 0) [(0, .ref 0), (1, .int a1), (2, .int a2), (3, .int a3)] [] H 0 0 _
  refine g_aload_n rfl ?_
  refine g_iconst (by decide) (fun v703 kv703 => ?_)
  refine g_pfi hI sm_0 rfl (gz_any _) (fun H704 eH704 hIH704 => ?_)
  have hJH704 : JN H704 := JN_sF eH704 hJ
  have e705 : k0_2 = fZ H704 0 2 := by rw [eH704, fZ_sF_ne (by decide)]; exact ek0_2
  have m706 : kpM H H704 := kpM_F mkfr eH704 (by first | with_reducible assumption | omega)
  refine g_iload_n rfl ?_
  refine g_invti rfl rfl rfl (s_205 a1 H704 hIH704 hJH704) (fun v709 H707 r708 => ?_)
  obtain ⟨rfl, bv709, p710⟩ := r708
  refine g_if_eq (fun c711 => ?_) (fun c711 => ?_)
  · refine g_iconst (by decide) (fun v712 kv712 => ?_)
    exact g_iret ⟨_, rfl, hIH704, hJH704, (e705.symm.trans ek0_2), m706⟩
  · refine g_iload_n rfl ?_
    refine g_invti rfl rfl rfl (s_206 a2 H704 hIH704 hJH704) (fun v715 H713 r714 => ?_)
    obtain ⟨rfl, bv715⟩ := r714
    refine g_if_eq (fun c716 => ?_) (fun c716 => ?_)
    · refine g_iconst (by decide) (fun v717 kv717 => ?_)
      exact g_iret ⟨_, rfl, hIH704, hJH704, (e705.symm.trans ek0_2), m706⟩
    · refine g_iload_n rfl ?_
      refine g_if_ge (fun c718 => ?_) (fun c718 => ?_)
      · refine g_aload_n rfl ?_
        refine g_iload_n rfl ?_
        refine g_invvv hIH704 sm_0 rfl rfl rfl rfl (s_200 a2 H704 hIH704 hJH704) (fun H719 r720 => ?_)
        obtain ⟨hIH719, hJH719, w721, m722⟩ := r720
        have e723 : k0_2 = fZ H719 0 2 := e705.trans w721.symm
        have m724 : kpM H H719 := kpM_t m706 m722
        refine g_aload_n rfl ?_
        refine g_gfr hIH719 sm_0 rfl ?_
        refine g_iload_n rfl ?_
        refine g_baload hIH719 sm_7 rfl (by first | with_reducible assumption | omega) (fun v725 ev725 lv725 uv725 => ?_)
        refine g_if_eq (fun c726 => ?_) (fun c726 => ?_)
        · refine g_bipush (by decide) (fun v727 kv727 => ?_)
          exact g_iret ⟨_, rfl, hIH719, (JM_n hJH719), (e723.symm.trans ek0_2), m724⟩
        · refine g_aload_n rfl ?_
          refine g_gfr hIH719 sm_0 rfl ?_
          refine g_iload_n rfl ?_
          refine g_baload hIH719 sm_16 rfl (by first | with_reducible assumption | omega) (fun v728 ev728 lv728 uv728 => ?_)
          refine g_if_eq (fun c729 => ?_) (fun c729 => ?_)
          · refine g_iconst (by decide) (fun v730 kv730 => ?_)
            refine g_istore (l' := [(0, .ref 0), (1, .int a1), (2, .int a2), (3, .int a3), (4, .int v730)]) rfl rfl ?_
            refine g_nop ?_
            have L735 : ∀ (N : Nat) (v731 : Int32) (H732 : mzH), gI SM H732 → JM H732 → k0_2 = fZ H732 0 2 → kpM H H732 → (0 ≤ v731.toInt ∧ v731.toInt ≤ 40) → (40 - v731.toInt).toNat < N → gG 5 zB_237 (mzBlk zB_237 5) [(0, .ref 0), (1, .int a1), (2, .int a2), (3, .int a3), (4, .int v731)] [] H732 0 0 (gRi (fun v H' => gI SM H' ∧ JN H' ∧ fZ H' 0 2 = fZ H 0 2 ∧ kpM H H')) := by
              intro N
              induction N with
              | zero => intro v731 H732 hIH732 hJH732 e733 m734 bv731 hmL735; exact absurd hmL735 (Nat.not_lt_zero _)
              | succ N ihL735 =>
                intro v731 H732 hIH732 hJH732 e733 m734 bv731 hmL735
                refine g_iload rfl ?_
                refine g_bipush (by decide) (fun v736 kv736 => ?_)
                refine g_if2_ge (fun c737 => ?_) (fun c737 => ?_)
                · refine g_aload_n rfl ?_
                  refine g_invvv hIH732 sm_0 rfl rfl rfl rfl (s_235 H732 hIH732 hJH732) (fun H738 r739 => ?_)
                  obtain ⟨hIH738, hJH738, m740, m741⟩ := r739
                  have e742 : k0_2 = fZ H738 0 2 := e733.trans (m740 0 2).symm
                  have m743 : kpM H H738 := kpM_t m734 m741
                  refine g_iconst (by decide) (fun v744 kv744 => ?_)
                  refine g_istore (l' := [(0, .ref 0), (1, .int a1), (2, .int a2), (3, .int a3), (4, .int v744)]) rfl rfl ?_
                  refine g_nop ?_
                  have L749 : ∀ (N : Nat) (v745 : Int32) (H746 : mzH), gI SM H746 → JM H746 → k0_2 = fZ H746 0 2 → kpM H H746 → (0 ≤ v745.toInt ∧ v745.toInt ≤ 60) → (60 - v745.toInt).toNat < N → gG 5 zB_237 (mzBlk zB_237 9) [(0, .ref 0), (1, .int a1), (2, .int a2), (3, .int a3), (4, .int v745)] [] H746 0 0 (gRi (fun v H' => gI SM H' ∧ JN H' ∧ fZ H' 0 2 = fZ H 0 2 ∧ kpM H H')) := by
                    intro N
                    induction N with
                    | zero => intro v745 H746 hIH746 hJH746 e747 m748 bv745 hmL749; exact absurd hmL749 (Nat.not_lt_zero _)
                    | succ N ihL749 =>
                      intro v745 H746 hIH746 hJH746 e747 m748 bv745 hmL749
                      refine g_iload rfl ?_
                      refine g_aload_n rfl ?_
                      refine g_gfi hIH746 sm_0 rfl (fun v750 ev750 lv750 uv750 => ?_)
                      refine g_if2_ge (fun c751 => ?_) (fun c751 => ?_)
                      · refine g_aload_n rfl ?_
                        refine g_gfr hIH746 sm_0 rfl ?_
                        refine g_iload_n rfl ?_
                        refine g_invti rfl rfl rfl (s_236 a3 H746 hIH746 (JM_n hJH746)) (fun v754 H752 r753 => ?_)
                        obtain rfl := r753
                        exact g_iret ⟨_, rfl, hIH746, (JM_n hJH746), (e747.symm.trans ek0_2), m748⟩
                      · refine g_aload_n rfl ?_
                        refine g_gfr hIH746 sm_0 rfl ?_
                        refine g_aload_n rfl ?_
                        refine g_gfr hIH746 sm_0 rfl ?_
                        refine g_iload rfl ?_
                        refine g_iaload hIH746 sm_19 rfl (by first | with_reducible assumption | omega) (fun v755 ev755 lv755 uv755 => ?_)
                        refine g_iaload hIH746 sm_18 rfl (by first | with_reducible assumption | omega) (fun v756 ev756 lv756 uv756 => ?_)
                        refine g_iload_n rfl ?_
                        refine g_if2_gt (fun c757 => ?_) (fun c757 => ?_)
                        · refine g_aload_n rfl ?_
                          refine g_aload_n rfl ?_
                          refine g_gfr hIH746 sm_0 rfl ?_
                          refine g_iload rfl ?_
                          refine g_ialoadk hIH746 sm_19 rfl (by first | with_reducible assumption | omega) ev755 ?_
                          refine g_invvv hIH746 sm_0 rfl rfl rfl rfl (s_192 v755 (by first | with_reducible assumption | omega) H746 hIH746 hJH746) (fun H758 r759 => ?_)
                          obtain ⟨hIH758, hJH758, m760, m761, m762, m763, m764⟩ := r759
                          have e765 : k0_2 = fZ H758 0 2 := e747.trans (m760 0 2).symm
                          have m766 : kpM H H758 := kpM_t m748 m764
                          refine g_aload_n rfl ?_
                          refine g_invvv hIH758 sm_0 rfl rfl rfl rfl (s_235 H758 hIH758 hJH758) (fun H767 r768 => ?_)
                          obtain ⟨hIH767, hJH767, m769, m770⟩ := r768
                          have e771 : k0_2 = fZ H767 0 2 := e765.trans (m769 0 2).symm
                          have m772 : kpM H H767 := kpM_t m766 m770
                          refine g_nop ?_
                          refine g_iinc (l' := (fun v773 => [(0, .ref 0), (1, .int a1), (2, .int a2), (3, .int a3), (4, .int v773)])) rfl rfl (by decide) (by first | with_reducible assumption | omega) (fun _ => rfl) (fun v773 ev773 => ?_)
                          refine g_goto ?_
                          exact ihL749 v773 H767 hIH767 hJH767 e771 m772 (by first | with_reducible assumption | omega) (by first | with_reducible assumption | omega)
                        · refine g_goto ?_
                          refine g_iinc (l' := (fun v774 => [(0, .ref 0), (1, .int a1), (2, .int a2), (3, .int a3), (4, .int v774)])) rfl rfl (by decide) (by first | with_reducible assumption | omega) (fun _ => rfl) (fun v774 ev774 => ?_)
                          refine g_goto ?_
                          exact ihL749 v774 H746 hIH746 hJH746 e747 m748 (by first | with_reducible assumption | omega) (by first | with_reducible assumption | omega)
                  exact L749 _ v744 H738 hIH738 hJH738 e742 m743 (by first | with_reducible assumption | omega) (Nat.lt_succ_self _)
                · refine g_aload_n rfl ?_
                  refine g_gfr hIH732 sm_0 rfl ?_
                  refine g_iload rfl ?_
                  refine g_iload rfl ?_
                  refine g_iload_n rfl ?_
                  refine g_if2_ne (fun c775 => ?_) (fun c775 => ?_)
                  · refine g_iconst (by decide) (fun v776 kv776 => ?_)
                    refine g_nop ?_
                    refine g_zastore hIH732 sm_25 (by first | with_reducible assumption | omega) (by first | with_reducible assumption | omega) (fun H777 eH777 hIH777 => ?_)
                    have hJH777 : JM H777 := JM_sA (by decide) eH777 hJH732
                    have e778 : k0_2 = fZ H777 0 2 := by rw [eH777, fZ_sA]; exact e733
                    have m779 : kpM H H777 := kpM_A m734 eH777 (by first | with_reducible assumption | omega)
                    refine g_iinc (l' := (fun v780 => [(0, .ref 0), (1, .int a1), (2, .int a2), (3, .int a3), (4, .int v780)])) rfl rfl (by decide) (by first | with_reducible assumption | omega) (fun _ => rfl) (fun v780 ev780 => ?_)
                    refine g_goto ?_
                    exact ihL735 v780 H777 hIH777 hJH777 e778 m779 (by first | with_reducible assumption | omega) (by first | with_reducible assumption | omega)
                  · refine g_iconst (by decide) (fun v781 kv781 => ?_)
                    refine g_goto ?_
                    refine g_zastore hIH732 sm_25 (by first | with_reducible assumption | omega) (by first | with_reducible assumption | omega) (fun H782 eH782 hIH782 => ?_)
                    have hJH782 : JM H782 := JM_sA (by decide) eH782 hJH732
                    have e783 : k0_2 = fZ H782 0 2 := by rw [eH782, fZ_sA]; exact e733
                    have m784 : kpM H H782 := kpM_A m734 eH782 (by first | with_reducible assumption | omega)
                    refine g_iinc (l' := (fun v785 => [(0, .ref 0), (1, .int a1), (2, .int a2), (3, .int a3), (4, .int v785)])) rfl rfl (by decide) (by first | with_reducible assumption | omega) (fun _ => rfl) (fun v785 ev785 => ?_)
                    refine g_goto ?_
                    exact ihL735 v785 H782 hIH782 hJH782 e783 m784 (by first | with_reducible assumption | omega) (by first | with_reducible assumption | omega)
            exact L735 _ v730 H719 hIH719 hJH719 e723 m724 (by first | with_reducible assumption | omega) (Nat.lt_succ_self _)
          · refine g_nop ?_
            refine g_bipush (by decide) (fun v786 kv786 => ?_)
            exact g_iret ⟨_, rfl, hIH719, (JM_n hJH719), (e723.symm.trans ek0_2), m724⟩
      · refine g_nop ?_
        refine g_iconst (by decide) (fun v787 kv787 => ?_)
        exact g_iret ⟨_, rfl, hIH704, hJH704, (e705.symm.trans ek0_2), m706⟩
set_option maxRecDepth 4000 in
set_option maxHeartbeats 4000000 in
/-- M.adds -/
theorem s_238 (a1 : Int32) (H : mzH) (hI : gI SM H) (hJ : JM H) : gCall 238 [.ref 0, .int a1] H (gRv (fun H' => gI SM H' ∧ JM H' ∧ (∀ a f, fZ H' a f = fZ H a f) ∧ kpM H H')) := by
  have mkF : ∀ a f, fZ H a f = fZ H a f := fun _ _ => rfl
  have mkfr : kpM H H := kpM_r
  refine gG_call [(0, .ref 0), (1, .int a1)] ⟨rfl, rfl, trivial⟩ ?_
  show gG 3 zB_238 (mzBlk zB_238 0) [(0, .ref 0), (1, .int a1)] [] H 0 0 _
  refine g_iconst (by decide) (fun v305 kv305 => ?_)
  refine g_istore_n (l' := [(0, .ref 0), (1, .int a1), (2, .int v305)]) rfl rfl ?_
  refine g_nop ?_
  have L310 : ∀ (N : Nat) (v306 : Int32) (H307 : mzH), gI SM H307 → JM H307 → (∀ a f, fZ H307 a f = fZ H a f) → kpM H H307 → (0 ≤ v306.toInt ∧ v306.toInt ≤ 40) → (40 - v306.toInt).toNat < N → gG 3 zB_238 (mzBlk zB_238 1) [(0, .ref 0), (1, .int a1), (2, .int v306)] [] H307 0 0 (gRv (fun H' => gI SM H' ∧ JM H' ∧ (∀ a f, fZ H' a f = fZ H a f) ∧ kpM H H')) := by
    intro N
    induction N with
    | zero => intro v306 H307 hIH307 hJH307 m308 m309 bv306 hmL310; exact absurd hmL310 (Nat.not_lt_zero _)
    | succ N ihL310 =>
      intro v306 H307 hIH307 hJH307 m308 m309 bv306 hmL310
      refine g_iload_n rfl ?_
      refine g_bipush (by decide) (fun v311 kv311 => ?_)
      refine g_if2_ge (fun c312 => ?_) (fun c312 => ?_)
      · exact g_ret ⟨rfl, hIH307, hJH307, m308, m309⟩
      · refine g_aload_n rfl ?_
        refine g_gfr hIH307 sm_0 rfl ?_
        refine g_iload_n rfl ?_
        refine g_aload_n rfl ?_
        refine g_gfr hIH307 sm_0 rfl ?_
        refine g_iload_n rfl ?_
        refine g_baload hIH307 sm_25 rfl (by first | with_reducible assumption | omega) (fun v313 ev313 lv313 uv313 => ?_)
        refine g_if_ne (fun c314 => ?_) (fun c314 => ?_)
        · refine g_iconst (by decide) (fun v315 kv315 => ?_)
          refine g_goto ?_
          refine g_zastore hIH307 sm_25 (by first | with_reducible assumption | omega) (by first | with_reducible assumption | omega) (fun H316 eH316 hIH316 => ?_)
          have hJH316 : JM H316 := JM_sA (by decide) eH316 hJH307
          have m317 : ∀ a f, fZ H316 a f = fZ H a f := fun a f => (by rw [eH316, fZ_sA] : fZ H316 a f = fZ H307 a f).trans (m308 a f)
          have m318 : kpM H H316 := kpM_A m309 eH316 (by first | with_reducible assumption | omega)
          refine g_iinc (l' := (fun v319 => [(0, .ref 0), (1, .int a1), (2, .int v319)])) rfl rfl (by decide) (by first | with_reducible assumption | omega) (fun _ => rfl) (fun v319 ev319 => ?_)
          refine g_goto ?_
          exact ihL310 v319 H316 hIH316 hJH316 m317 m318 (by first | with_reducible assumption | omega) (by first | with_reducible assumption | omega)
        · refine g_aload_n rfl ?_
          refine g_iload_n rfl ?_
          refine g_iload_n rfl ?_
          refine g_invvi hIH307 sm_0 rfl rfl rfl rfl (s_186 v306 (by first | with_reducible assumption | omega) a1 H307 hIH307 hJH307) (fun v322 H320 r321 => ?_)
          obtain ⟨rfl, bv322⟩ := r321
          refine g_if_eq (fun c323 => ?_) (fun c323 => ?_)
          · refine g_iconst (by decide) (fun v324 kv324 => ?_)
            refine g_nop ?_
            refine g_zastore hIH307 sm_25 (by first | with_reducible assumption | omega) (by first | with_reducible assumption | omega) (fun H325 eH325 hIH325 => ?_)
            have hJH325 : JM H325 := JM_sA (by decide) eH325 hJH307
            have m326 : ∀ a f, fZ H325 a f = fZ H a f := fun a f => (by rw [eH325, fZ_sA] : fZ H325 a f = fZ H307 a f).trans (m308 a f)
            have m327 : kpM H H325 := kpM_A m309 eH325 (by first | with_reducible assumption | omega)
            refine g_iinc (l' := (fun v328 => [(0, .ref 0), (1, .int a1), (2, .int v328)])) rfl rfl (by decide) (by first | with_reducible assumption | omega) (fun _ => rfl) (fun v328 ev328 => ?_)
            refine g_goto ?_
            exact ihL310 v328 H325 hIH325 hJH325 m326 m327 (by first | with_reducible assumption | omega) (by first | with_reducible assumption | omega)
          · refine g_nop ?_
            refine g_iconst (by decide) (fun v329 kv329 => ?_)
            refine g_goto ?_
            refine g_zastore hIH307 sm_25 (by first | with_reducible assumption | omega) (by first | with_reducible assumption | omega) (fun H330 eH330 hIH330 => ?_)
            have hJH330 : JM H330 := JM_sA (by decide) eH330 hJH307
            have m331 : ∀ a f, fZ H330 a f = fZ H a f := fun a f => (by rw [eH330, fZ_sA] : fZ H330 a f = fZ H307 a f).trans (m308 a f)
            have m332 : kpM H H330 := kpM_A m309 eH330 (by first | with_reducible assumption | omega)
            refine g_iinc (l' := (fun v333 => [(0, .ref 0), (1, .int a1), (2, .int v333)])) rfl rfl (by decide) (by first | with_reducible assumption | omega) (fun _ => rfl) (fun v333 ev333 => ?_)
            refine g_goto ?_
            exact ihL310 v333 H330 hIH330 hJH330 m331 m332 (by first | with_reducible assumption | omega) (by first | with_reducible assumption | omega)
  exact L310 _ v305 H hI hJ mkF mkfr (by first | with_reducible assumption | omega) (Nat.lt_succ_self _)
set_option maxRecDepth 4000 in
set_option maxHeartbeats 4000000 in
/-- M.wereIn -/
theorem s_239 (a1 : Int32) (a2 : Int32) (a3 : Int32) (a4 : Int32) (H : mzH) (hI : gI SM H) (hJ : JN H) : gCall 239 [.ref 0, .int a1, .int a2, .int a3, .int a4] H (gRi (fun v H' => gI SM H' ∧ JN H' ∧ fZ H' 0 2 = fZ H 0 2 ∧ kpM H H')) := by
  obtain ⟨k0_2, ek0_2⟩ : ∃ z, z = fZ H 0 2 := ⟨_, rfl⟩
  have ik0_2 : k0_2.toInt = (fZ H 0 2).toInt := by rw [← ek0_2]
  have bk0_2 : 0 ≤ k0_2.toInt ∧ k0_2.toInt ≤ 900 := by rw [ek0_2]; exact fZ_of hI sm_0 rfl
  have mkfr : kpM H H := kpM_r
  refine gG_call [(0, .ref 0), (1, .int a1), (2, .int a2), (3, .int a3), (4, .int a4)] ⟨rfl, rfl, rfl, rfl, rfl, trivial⟩ ?_
  show gG 7 zB_239 (mzBlk zB_239 0) [(0, .ref 0), (1, .int a1), (2, .int a2), (3, .int a3), (4, .int a4)] [] H 0 0 _
  refine g_aload_n rfl ?_
  refine g_iconst (by decide) (fun v701 kv701 => ?_)
  refine g_pfi hI sm_0 rfl (gz_any _) (fun H702 eH702 hIH702 => ?_)
  have hJH702 : JN H702 := JN_sF eH702 hJ
  have e703 : k0_2 = fZ H702 0 2 := by rw [eH702, fZ_sF_ne (by decide)]; exact ek0_2
  have m704 : kpM H H702 := kpM_F mkfr eH702 (by first | with_reducible assumption | omega)
  refine g_iload_n rfl ?_
  refine g_invti rfl rfl rfl (s_205 a1 H702 hIH702 hJH702) (fun v707 H705 r706 => ?_)
  obtain ⟨rfl, bv707, p708⟩ := r706
  refine g_if_eq (fun c709 => ?_) (fun c709 => ?_)
  · refine g_iconst (by decide) (fun v710 kv710 => ?_)
    exact g_iret ⟨_, rfl, hIH702, hJH702, (e703.symm.trans ek0_2), m704⟩
  · refine g_iload_n rfl ?_
    refine g_invti rfl rfl rfl (s_206 a2 H702 hIH702 hJH702) (fun v713 H711 r712 => ?_)
    obtain ⟨rfl, bv713⟩ := r712
    refine g_if_eq (fun c714 => ?_) (fun c714 => ?_)
    · refine g_iconst (by decide) (fun v715 kv715 => ?_)
      exact g_iret ⟨_, rfl, hIH702, hJH702, (e703.symm.trans ek0_2), m704⟩
    · refine g_iload_n rfl ?_
      refine g_invti rfl rfl rfl (s_206 a3 H702 hIH702 hJH702) (fun v718 H716 r717 => ?_)
      obtain ⟨rfl, bv718⟩ := r717
      refine g_if_eq (fun c719 => ?_) (fun c719 => ?_)
      · refine g_iconst (by decide) (fun v720 kv720 => ?_)
        exact g_iret ⟨_, rfl, hIH702, hJH702, (e703.symm.trans ek0_2), m704⟩
      · refine g_iload_n rfl ?_
        refine g_iload_n rfl ?_
        refine g_if2_lt (fun c721 => ?_) (fun c721 => ?_)
        · refine g_iconst (by decide) (fun v722 kv722 => ?_)
          exact g_iret ⟨_, rfl, hIH702, hJH702, (e703.symm.trans ek0_2), m704⟩
        · refine g_iload rfl ?_
          refine g_if_ge (fun c723 => ?_) (fun c723 => ?_)
          · refine g_aload_n rfl ?_
            refine g_iload_n rfl ?_
            refine g_invvv hIH702 sm_0 rfl rfl rfl rfl (s_200 a2 H702 hIH702 hJH702) (fun H724 r725 => ?_)
            obtain ⟨hIH724, hJH724, w726, m727⟩ := r725
            have e728 : k0_2 = fZ H724 0 2 := e703.trans w726.symm
            have m729 : kpM H H724 := kpM_t m704 m727
            refine g_iconst (by decide) (fun v730 kv730 => ?_)
            refine g_istore (l' := [(0, .ref 0), (1, .int a1), (2, .int a2), (3, .int a3), (4, .int a4), (5, .int v730)]) rfl rfl ?_
            refine g_nop ?_
            have L735 : ∀ (N : Nat) (v731 : Int32) (H732 : mzH), gI SM H732 → JM H732 → k0_2 = fZ H732 0 2 → kpM H H732 → (0 ≤ v731.toInt ∧ v731.toInt ≤ 40) → (40 - v731.toInt).toNat < N → gG 7 zB_239 (mzBlk zB_239 3) [(0, .ref 0), (1, .int a1), (2, .int a2), (3, .int a3), (4, .int a4), (5, .int v731)] [] H732 0 0 (gRi (fun v H' => gI SM H' ∧ JN H' ∧ fZ H' 0 2 = fZ H 0 2 ∧ kpM H H')) := by
              intro N
              induction N with
              | zero => intro v731 H732 hIH732 hJH732 e733 m734 bv731 hmL735; exact absurd hmL735 (Nat.not_lt_zero _)
              | succ N ihL735 =>
                intro v731 H732 hIH732 hJH732 e733 m734 bv731 hmL735
                refine g_iload rfl ?_
                refine g_bipush (by decide) (fun v736 kv736 => ?_)
                refine g_if2_ge (fun c737 => ?_) (fun c737 => ?_)
                · refine g_aload_n rfl ?_
                  refine g_iload_n rfl ?_
                  refine g_invvv hIH732 sm_0 rfl rfl rfl rfl (s_238 a1 H732 hIH732 hJH732) (fun H738 r739 => ?_)
                  obtain ⟨hIH738, hJH738, m740, m741⟩ := r739
                  have e742 : k0_2 = fZ H738 0 2 := e733.trans (m740 0 2).symm
                  have m743 : kpM H H738 := kpM_t m734 m741
                  refine g_iconst (by decide) (fun v744 kv744 => ?_)
                  refine g_istore (l' := [(0, .ref 0), (1, .int a1), (2, .int a2), (3, .int a3), (4, .int a4), (5, .int v744)]) rfl rfl ?_
                  refine g_nop ?_
                  have L749 : ∀ (N : Nat) (v745 : Int32) (H746 : mzH), gI SM H746 → JM H746 → k0_2 = fZ H746 0 2 → kpM H H746 → (0 ≤ v745.toInt ∧ v745.toInt ≤ 60) → (60 - v745.toInt).toNat < N → gG 7 zB_239 (mzBlk zB_239 5) [(0, .ref 0), (1, .int a1), (2, .int a2), (3, .int a3), (4, .int a4), (5, .int v745)] [] H746 0 0 (gRi (fun v H' => gI SM H' ∧ JN H' ∧ fZ H' 0 2 = fZ H 0 2 ∧ kpM H H')) := by
                    intro N
                    induction N with
                    | zero => intro v745 H746 hIH746 hJH746 e747 m748 bv745 hmL749; exact absurd hmL749 (Nat.not_lt_zero _)
                    | succ N ihL749 =>
                      intro v745 H746 hIH746 hJH746 e747 m748 bv745 hmL749
                      refine g_iload rfl ?_
                      refine g_aload_n rfl ?_
                      refine g_gfi hIH746 sm_0 rfl (fun v750 ev750 lv750 uv750 => ?_)
                      refine g_if2_ge (fun c751 => ?_) (fun c751 => ?_)
                      · refine g_aload_n rfl ?_
                        refine g_gfr hIH746 sm_0 rfl ?_
                        refine g_iload rfl ?_
                        refine g_invti rfl rfl rfl (s_236 a4 H746 hIH746 (JM_n hJH746)) (fun v754 H752 r753 => ?_)
                        obtain rfl := r753
                        exact g_iret ⟨_, rfl, hIH746, (JM_n hJH746), (e747.symm.trans ek0_2), m748⟩
                      · refine g_aload_n rfl ?_
                        refine g_gfr hIH746 sm_0 rfl ?_
                        refine g_aload_n rfl ?_
                        refine g_gfr hIH746 sm_0 rfl ?_
                        refine g_iload rfl ?_
                        refine g_iaload hIH746 sm_19 rfl (by first | with_reducible assumption | omega) (fun v755 ev755 lv755 uv755 => ?_)
                        refine g_iaload hIH746 sm_18 rfl (by first | with_reducible assumption | omega) (fun v756 ev756 lv756 uv756 => ?_)
                        refine g_istore (l' := [(0, .ref 0), (1, .int a1), (2, .int a2), (3, .int a3), (4, .int a4), (5, .int v745), (6, .int v756)]) rfl rfl ?_
                        refine g_iload rfl ?_
                        refine g_iload_n rfl ?_
                        refine g_if2_le (fun c757 => ?_) (fun c757 => ?_)
                        · refine g_iinc (l' := (fun v758 => [(0, .ref 0), (1, .int a1), (2, .int a2), (3, .int a3), (4, .int a4), (5, .int v758), (6, .int v756)])) rfl rfl (by decide) (by first | with_reducible assumption | omega) (fun _ => rfl) (fun v758 ev758 => ?_)
                          refine g_goto ?_
                          refine gG_pick [0, 1, 2, 3, 4, 5] (l' := [(0, .ref 0), (1, .int a1), (2, .int a2), (3, .int a3), (4, .int a4), (5, .int v758)]) rfl ?_
                          exact ihL749 v758 H746 hIH746 hJH746 e747 m748 (by first | with_reducible assumption | omega) (by first | with_reducible assumption | omega)
                        · refine g_iload rfl ?_
                          refine g_iload_n rfl ?_
                          refine g_if2_le (fun c759 => ?_) (fun c759 => ?_)
                          · refine g_aload_n rfl ?_
                            refine g_aload_n rfl ?_
                            refine g_gfr hIH746 sm_0 rfl ?_
                            refine g_iload rfl ?_
                            refine g_ialoadk hIH746 sm_19 rfl (by first | with_reducible assumption | omega) ev755 ?_
                            refine g_invvv hIH746 sm_0 rfl rfl rfl rfl (s_192 v755 (by first | with_reducible assumption | omega) H746 hIH746 hJH746) (fun H760 r761 => ?_)
                            obtain ⟨hIH760, hJH760, m762, m763, m764, m765, m766⟩ := r761
                            have e767 : k0_2 = fZ H760 0 2 := e747.trans (m762 0 2).symm
                            have m768 : kpM H H760 := kpM_t m748 m766
                            refine g_aload_n rfl ?_
                            refine g_iload_n rfl ?_
                            refine g_invvv hIH760 sm_0 rfl rfl rfl rfl (s_238 a1 H760 hIH760 hJH760) (fun H769 r770 => ?_)
                            obtain ⟨hIH769, hJH769, m771, m772⟩ := r770
                            have e773 : k0_2 = fZ H769 0 2 := e767.trans (m771 0 2).symm
                            have m774 : kpM H H769 := kpM_t m768 m772
                            refine g_nop ?_
                            refine g_iinc (l' := (fun v775 => [(0, .ref 0), (1, .int a1), (2, .int a2), (3, .int a3), (4, .int a4), (5, .int v775), (6, .int v756)])) rfl rfl (by decide) (by first | with_reducible assumption | omega) (fun _ => rfl) (fun v775 ev775 => ?_)
                            refine g_goto ?_
                            refine gG_pick [0, 1, 2, 3, 4, 5] (l' := [(0, .ref 0), (1, .int a1), (2, .int a2), (3, .int a3), (4, .int a4), (5, .int v775)]) rfl ?_
                            exact ihL749 v775 H769 hIH769 hJH769 e773 m774 (by first | with_reducible assumption | omega) (by first | with_reducible assumption | omega)
                          · refine g_goto ?_
                            refine g_iinc (l' := (fun v776 => [(0, .ref 0), (1, .int a1), (2, .int a2), (3, .int a3), (4, .int a4), (5, .int v776), (6, .int v756)])) rfl rfl (by decide) (by first | with_reducible assumption | omega) (fun _ => rfl) (fun v776 ev776 => ?_)
                            refine g_goto ?_
                            refine gG_pick [0, 1, 2, 3, 4, 5] (l' := [(0, .ref 0), (1, .int a1), (2, .int a2), (3, .int a3), (4, .int a4), (5, .int v776)]) rfl ?_
                            exact ihL749 v776 H746 hIH746 hJH746 e747 m748 (by first | with_reducible assumption | omega) (by first | with_reducible assumption | omega)
                  exact L749 _ v744 H738 hIH738 hJH738 e742 m743 (by first | with_reducible assumption | omega) (Nat.lt_succ_self _)
                · refine g_aload_n rfl ?_
                  refine g_gfr hIH732 sm_0 rfl ?_
                  refine g_iload rfl ?_
                  refine g_iconst (by decide) (fun v777 kv777 => ?_)
                  refine g_zastore hIH732 sm_25 (by first | with_reducible assumption | omega) (by first | with_reducible assumption | omega) (fun H778 eH778 hIH778 => ?_)
                  have hJH778 : JM H778 := JM_sA (by decide) eH778 hJH732
                  have e779 : k0_2 = fZ H778 0 2 := by rw [eH778, fZ_sA]; exact e733
                  have m780 : kpM H H778 := kpM_A m734 eH778 (by first | with_reducible assumption | omega)
                  refine g_iinc (l' := (fun v781 => [(0, .ref 0), (1, .int a1), (2, .int a2), (3, .int a3), (4, .int a4), (5, .int v781)])) rfl rfl (by decide) (by first | with_reducible assumption | omega) (fun _ => rfl) (fun v781 ev781 => ?_)
                  refine g_goto ?_
                  exact ihL735 v781 H778 hIH778 hJH778 e779 m780 (by first | with_reducible assumption | omega) (by first | with_reducible assumption | omega)
            exact L735 _ v730 H724 hIH724 hJH724 e728 m729 (by first | with_reducible assumption | omega) (Nat.lt_succ_self _)
          · refine g_nop ?_
            refine g_iconst (by decide) (fun v782 kv782 => ?_)
            exact g_iret ⟨_, rfl, hIH702, hJH702, (e703.symm.trans ek0_2), m704⟩
set_option maxRecDepth 4000 in
set_option maxHeartbeats 4000000 in
/-- M.most -/
theorem s_240 (a1 : Int32) (H : mzH) (hI : gI SM H) (hJ : JN H) : gCall 240 [.ref 0, .int a1] H (gRi (fun v H' => gI SM H' ∧ JN H' ∧ fZ H' 0 2 = fZ H 0 2 ∧ kpM H H')) := by
  obtain ⟨k0_2, ek0_2⟩ : ∃ z, z = fZ H 0 2 := ⟨_, rfl⟩
  have ik0_2 : k0_2.toInt = (fZ H 0 2).toInt := by rw [← ek0_2]
  have bk0_2 : 0 ≤ k0_2.toInt ∧ k0_2.toInt ≤ 900 := by rw [ek0_2]; exact fZ_of hI sm_0 rfl
  have mkfr : kpM H H := kpM_r
  refine gG_call [(0, .ref 0), (1, .int a1)] ⟨rfl, rfl, trivial⟩ ?_
  show gG 4 zB_240 (mzBlk zB_240 0) [(0, .ref 0), (1, .int a1)] [] H 0 0 _
  refine g_aload_n rfl ?_
  refine g_iconst (by decide) (fun v481 kv481 => ?_)
  refine g_pfi hI sm_0 rfl (gz_any _) (fun H482 eH482 hIH482 => ?_)
  have hJH482 : JN H482 := JN_sF eH482 hJ
  have e483 : k0_2 = fZ H482 0 2 := by rw [eH482, fZ_sF_ne (by decide)]; exact ek0_2
  have m484 : kpM H H482 := kpM_F mkfr eH482 (by first | with_reducible assumption | omega)
  refine g_iload_n rfl ?_
  refine g_invti rfl rfl rfl (s_205 a1 H482 hIH482 hJH482) (fun v487 H485 r486 => ?_)
  obtain ⟨rfl, bv487, p488⟩ := r486
  refine g_if_ne (fun c489 => ?_) (fun c489 => ?_)
  · refine g_aload_n rfl ?_
    refine g_invvv hIH482 sm_0 rfl rfl rfl rfl (s_182 H482 hIH482 hJH482) (fun H490 r491 => ?_)
    obtain ⟨hIH490, hJH490, m492, m493, m494, p495⟩ := r491
    have e496 : k0_2 = fZ H490 0 2 := e483.trans (m492 0 2).symm
    have m497 : kpM H H490 := kpM_t m484 m494
    refine g_aload_n rfl ?_
    refine g_invvv hIH490 sm_0 rfl rfl rfl rfl (s_184 H490 hIH490 hJH490) (fun H498 r499 => ?_)
    obtain ⟨hIH498, hJH498, w500, m501, m502, m503, p504⟩ := r499
    have e505 : k0_2 = fZ H498 0 2 := e496.trans w500.symm
    have m506 : kpM H H498 := kpM_t m497 m503
    refine g_iconst (by decide) (fun v507 kv507 => ?_)
    refine g_istore_n (l' := [(0, .ref 0), (1, .int a1), (2, .int v507)]) rfl rfl ?_
    refine g_iconst (by decide) (fun v508 kv508 => ?_)
    refine g_istore_n (l' := [(0, .ref 0), (1, .int a1), (2, .int v507), (3, .int v508)]) rfl rfl ?_
    refine g_nop ?_
    have L514 : ∀ (N : Nat) (v509 : Int32) (v510 : Int32) (H511 : mzH), gI SM H511 → JM H511 → k0_2 = fZ H511 0 2 → kpM H H511 → (0 ≤ v510.toInt ∧ v510.toInt ≤ 60) → (60 - v510.toInt).toNat < N → gG 4 zB_240 (mzBlk zB_240 2) [(0, .ref 0), (1, .int a1), (2, .int v509), (3, .int v510)] [] H511 0 0 (gRi (fun v H' => gI SM H' ∧ JN H' ∧ fZ H' 0 2 = fZ H 0 2 ∧ kpM H H')) := by
      intro N
      induction N with
      | zero => intro v509 v510 H511 hIH511 hJH511 e512 m513 bv510 hmL514; exact absurd hmL514 (Nat.not_lt_zero _)
      | succ N ihL514 =>
        intro v509 v510 H511 hIH511 hJH511 e512 m513 bv510 hmL514
        refine g_iload_n rfl ?_
        refine g_aload_n rfl ?_
        refine g_gfi hIH511 sm_0 rfl (fun v515 ev515 lv515 uv515 => ?_)
        refine g_if2_ge (fun c516 => ?_) (fun c516 => ?_)
        · refine g_aload_n rfl ?_
          refine g_gfr hIH511 sm_0 rfl ?_
          refine g_iload_n rfl ?_
          refine g_baload hIH511 sm_7 rfl (by first | with_reducible assumption | omega) (fun v517 ev517 lv517 uv517 => ?_)
          refine g_if_eq (fun c518 => ?_) (fun c518 => ?_)
          · refine g_bipush (by decide) (fun v519 kv519 => ?_)
            refine g_nop ?_
            exact g_iret ⟨_, rfl, hIH511, (JM_n hJH511), (e512.symm.trans ek0_2), m513⟩
          · refine g_iload_n rfl ?_
            refine g_goto ?_
            exact g_iret ⟨_, rfl, hIH511, (JM_n hJH511), (e512.symm.trans ek0_2), m513⟩
        · refine g_aload_n rfl ?_
          refine g_aload_n rfl ?_
          refine g_gfr hIH511 sm_0 rfl ?_
          refine g_iload_n rfl ?_
          refine g_iaload hIH511 sm_19 rfl (by first | with_reducible assumption | omega) (fun v520 ev520 lv520 uv520 => ?_)
          refine g_invvv hIH511 sm_0 rfl rfl rfl rfl (s_192 v520 (by first | with_reducible assumption | omega) H511 hIH511 hJH511) (fun H521 r522 => ?_)
          obtain ⟨hIH521, hJH521, m523, m524, m525, m526, m527⟩ := r522
          have e528 : k0_2 = fZ H521 0 2 := e512.trans (m523 0 2).symm
          have m529 : kpM H H521 := kpM_t m513 m527
          refine g_aload_n rfl ?_
          refine g_iload_n rfl ?_
          refine g_invvi hIH521 sm_0 rfl rfl rfl rfl (s_207 a1 H521 hIH521 hJH521) (fun v532 H530 r531 => ?_)
          obtain rfl := r531
          refine g_iload_n rfl ?_
          refine g_if2_le (fun c533 => ?_) (fun c533 => ?_)
          · refine g_iload_n rfl ?_
            refine g_nop ?_
            refine g_istore_n (l' := [(0, .ref 0), (1, .int a1), (2, .int v509), (3, .int v510)]) rfl rfl ?_
            refine g_iinc (l' := (fun v534 => [(0, .ref 0), (1, .int a1), (2, .int v509), (3, .int v534)])) rfl rfl (by decide) (by first | with_reducible assumption | omega) (fun _ => rfl) (fun v534 ev534 => ?_)
            refine g_goto ?_
            exact ihL514 v509 v534 H521 hIH521 hJH521 e528 m529 (by first | with_reducible assumption | omega) (by first | with_reducible assumption | omega)
          · refine g_aload_n rfl ?_
            refine g_iload_n rfl ?_
            refine g_invvi hIH521 sm_0 rfl rfl rfl rfl (s_207 a1 H521 hIH521 hJH521) (fun v537 H535 r536 => ?_)
            obtain rfl := r536
            refine g_goto ?_
            refine g_istore_n (l' := [(0, .ref 0), (1, .int a1), (2, .int v537), (3, .int v510)]) rfl rfl ?_
            refine g_iinc (l' := (fun v538 => [(0, .ref 0), (1, .int a1), (2, .int v537), (3, .int v538)])) rfl rfl (by decide) (by first | with_reducible assumption | omega) (fun _ => rfl) (fun v538 ev538 => ?_)
            refine g_goto ?_
            exact ihL514 v537 v538 H521 hIH521 hJH521 e528 m529 (by first | with_reducible assumption | omega) (by first | with_reducible assumption | omega)
    exact L514 _ v507 v508 H498 hIH498 hJH498 e505 m506 (by first | with_reducible assumption | omega) (Nat.lt_succ_self _)
  · refine g_iconst (by decide) (fun v539 kv539 => ?_)
    exact g_iret ⟨_, rfl, hIH482, hJH482, (e483.symm.trans ek0_2), m484⟩
set_option maxRecDepth 4000 in
set_option maxHeartbeats 4000000 in
/-- M.bitsIn -/
theorem s_241 (a1 : Int32) (H : mzH) (hI : gI SM H) (hJ : JM H) : gCall 241 [.ref 0, .int a1] H (gRl (fun _ H' => H = H')) := by
  refine gG_call [(0, .ref 0), (1, .int a1)] ⟨rfl, rfl, trivial⟩ ?_
  show gG 5 zB_241 (mzBlk zB_241 0) [(0, .ref 0), (1, .int a1)] [] H 0 0 _
  refine g_lconst (fun v177 _ => ?_)
  refine g_lstore_n (l' := [(0, .ref 0), (1, .int a1), (2, .long v177)]) rfl rfl ?_
  refine g_iconst (by decide) (fun v178 kv178 => ?_)
  refine g_istore (l' := [(0, .ref 0), (1, .int a1), (2, .long v177), (4, .int v178)]) rfl rfl ?_
  refine g_nop ?_
  have L181 : ∀ (N : Nat) (v179 : Int64) (v180 : Int32), (0 ≤ v180.toInt ∧ v180.toInt ≤ 40) → (40 - v180.toInt).toNat < N → gG 5 zB_241 (mzBlk zB_241 1) [(0, .ref 0), (1, .int a1), (2, .long v179), (4, .int v180)] [] H 0 0 (gRl (fun _ H' => H = H')) := by
    intro N
    induction N with
    | zero => intro v179 v180 bv180 hmL181; exact absurd hmL181 (Nat.not_lt_zero _)
    | succ N ihL181 =>
      intro v179 v180 bv180 hmL181
      refine g_iload rfl ?_
      refine g_bipush (by decide) (fun v182 kv182 => ?_)
      refine g_if2_ge (fun c183 => ?_) (fun c183 => ?_)
      · refine g_lload_n rfl ?_
        exact g_lret ⟨_, rfl, rfl⟩
      · refine g_aload_n rfl ?_
        refine g_iload rfl ?_
        refine g_iload_n rfl ?_
        refine g_invvi hI sm_0 rfl rfl rfl rfl (s_186 v180 (by first | with_reducible assumption | omega) a1 H hI hJ) (fun v186 H184 r185 => ?_)
        obtain ⟨rfl, bv186⟩ := r185
        refine g_if_eq (fun c187 => ?_) (fun c187 => ?_)
        · refine g_iinc (l' := (fun v188 => [(0, .ref 0), (1, .int a1), (2, .long v179), (4, .int v188)])) rfl rfl (by decide) (by first | with_reducible assumption | omega) (fun _ => rfl) (fun v188 ev188 => ?_)
          refine g_goto ?_
          exact ihL181 v179 v188 (by first | with_reducible assumption | omega) (by first | with_reducible assumption | omega)
        · refine g_lload_n rfl ?_
          refine g_lconst (fun v189 _ => ?_)
          refine g_iload rfl ?_
          refine g_lshl (fun v190 _ => ?_)
          refine g_lor (fun v191 _ => ?_)
          refine g_lstore_n (l' := [(0, .ref 0), (1, .int a1), (2, .long v191), (4, .int v180)]) rfl rfl ?_
          refine g_nop ?_
          refine g_iinc (l' := (fun v192 => [(0, .ref 0), (1, .int a1), (2, .long v191), (4, .int v192)])) rfl rfl (by decide) (by first | with_reducible assumption | omega) (fun _ => rfl) (fun v192 ev192 => ?_)
          refine g_goto ?_
          exact ihL181 v191 v192 (by first | with_reducible assumption | omega) (by first | with_reducible assumption | omega)
  exact L181 _ v177 v178 (by first | with_reducible assumption | omega) (Nat.lt_succ_self _)
set_option maxRecDepth 4000 in
set_option maxHeartbeats 4000000 in
/-- M.still -/
theorem s_242 (a1 : Int32) (a2 : Int32) (H : mzH) (hI : gI SM H) (hJ : JN H) : gCall 242 [.ref 0, .int a1, .int a2] H (gRi (fun v H' => gI SM H' ∧ JN H' ∧ fZ H' 0 2 = fZ H 0 2 ∧ kpM H H')) := by
  obtain ⟨k0_2, ek0_2⟩ : ∃ z, z = fZ H 0 2 := ⟨_, rfl⟩
  have ik0_2 : k0_2.toInt = (fZ H 0 2).toInt := by rw [← ek0_2]
  have bk0_2 : 0 ≤ k0_2.toInt ∧ k0_2.toInt ≤ 900 := by rw [ek0_2]; exact fZ_of hI sm_0 rfl
  have mkfr : kpM H H := kpM_r
  refine gG_call [(0, .ref 0), (1, .int a1), (2, .int a2)] ⟨rfl, rfl, rfl, trivial⟩ ?_
  show gG 8 zB_242 (mzBlk zB_242 0) [(0, .ref 0), (1, .int a1), (2, .int a2)] [] H 0 0 _
  refine g_aload_n rfl ?_
  refine g_iconst (by decide) (fun v823 kv823 => ?_)
  refine g_pfi hI sm_0 rfl (gz_any _) (fun H824 eH824 hIH824 => ?_)
  have hJH824 : JN H824 := JN_sF eH824 hJ
  have e825 : k0_2 = fZ H824 0 2 := by rw [eH824, fZ_sF_ne (by decide)]; exact ek0_2
  have m826 : kpM H H824 := kpM_F mkfr eH824 (by first | with_reducible assumption | omega)
  refine g_iload_n rfl ?_
  refine g_invti rfl rfl rfl (s_205 a1 H824 hIH824 hJH824) (fun v829 H827 r828 => ?_)
  obtain ⟨rfl, bv829, p830⟩ := r828
  refine g_if_eq (fun c831 => ?_) (fun c831 => ?_)
  · refine g_iconst (by decide) (fun v832 kv832 => ?_)
    exact g_iret ⟨_, rfl, hIH824, hJH824, (e825.symm.trans ek0_2), m826⟩
  · refine g_iload_n rfl ?_
    refine g_invti rfl rfl rfl (s_206 a2 H824 hIH824 hJH824) (fun v835 H833 r834 => ?_)
    obtain ⟨rfl, bv835⟩ := r834
    refine g_if_ne (fun c836 => ?_) (fun c836 => ?_)
    · refine g_aload_n rfl ?_
      refine g_invvv hIH824 sm_0 rfl rfl rfl rfl (s_182 H824 hIH824 hJH824) (fun H837 r838 => ?_)
      obtain ⟨hIH837, hJH837, m839, m840, m841, p842⟩ := r838
      have e843 : k0_2 = fZ H837 0 2 := e825.trans (m839 0 2).symm
      have m844 : kpM H H837 := kpM_t m826 m841
      refine g_aload_n rfl ?_
      refine g_invvv hIH837 sm_0 rfl rfl rfl rfl (s_184 H837 hIH837 hJH837) (fun H845 r846 => ?_)
      obtain ⟨hIH845, hJH845, w847, m848, m849, m850, p851⟩ := r846
      have e852 : k0_2 = fZ H845 0 2 := e843.trans w847.symm
      have m853 : kpM H H845 := kpM_t m844 m850
      refine g_bipush (by decide) (fun v854 kv854 => ?_)
      refine g_istore_n (l' := [(0, .ref 0), (1, .int a1), (2, .int a2), (3, .int v854)]) rfl rfl ?_
      refine g_iconst (by decide) (fun v855 kv855 => ?_)
      refine g_istore (l' := [(0, .ref 0), (1, .int a1), (2, .int a2), (3, .int v854), (4, .int v855)]) rfl rfl ?_
      refine g_nop ?_
      have L861 : ∀ (N : Nat) (v856 : Int32) (v857 : Int32) (H858 : mzH), gI SM H858 → JM H858 → k0_2 = fZ H858 0 2 → kpM H H858 → (0 ≤ v857.toInt ∧ v857.toInt ≤ 60) → (60 - v857.toInt).toNat < N → gG 8 zB_242 (mzBlk zB_242 3) [(0, .ref 0), (1, .int a1), (2, .int a2), (3, .int v856), (4, .int v857)] [] H858 0 0 (gRi (fun v H' => gI SM H' ∧ JN H' ∧ fZ H' 0 2 = fZ H 0 2 ∧ kpM H H')) := by
        intro N
        induction N with
        | zero => intro v856 v857 H858 hIH858 hJH858 e859 m860 bv857 hmL861; exact absurd hmL861 (Nat.not_lt_zero _)
        | succ N ihL861 =>
          intro v856 v857 H858 hIH858 hJH858 e859 m860 bv857 hmL861
          refine g_iload rfl ?_
          refine g_aload_n rfl ?_
          refine g_gfi hIH858 sm_0 rfl (fun v862 ev862 lv862 uv862 => ?_)
          refine g_if2_ge (fun c863 => ?_) (fun c863 => ?_)
          · refine g_aload_n rfl ?_
            refine g_gfr hIH858 sm_0 rfl ?_
            refine g_iload_n rfl ?_
            refine g_baload hIH858 sm_7 rfl (by first | with_reducible assumption | omega) (fun v864 ev864 lv864 uv864 => ?_)
            refine g_if_ne (fun c865 => ?_) (fun c865 => ?_)
            · refine g_aload_n rfl ?_
              refine g_gfr hIH858 sm_0 rfl ?_
              refine g_iload_n rfl ?_
              refine g_baload hIH858 sm_16 rfl (by first | with_reducible assumption | omega) (fun v866 ev866 lv866 uv866 => ?_)
              refine g_if_eq (fun c867 => ?_) (fun c867 => ?_)
              · refine g_iload_n rfl ?_
                refine g_nop ?_
                exact g_iret ⟨_, rfl, hIH858, (JM_n hJH858), (e859.symm.trans ek0_2), m860⟩
              · refine g_bipush (by decide) (fun v868 kv868 => ?_)
                refine g_goto ?_
                exact g_iret ⟨_, rfl, hIH858, (JM_n hJH858), (e859.symm.trans ek0_2), m860⟩
            · refine g_bipush (by decide) (fun v869 kv869 => ?_)
              refine g_goto ?_
              exact g_iret ⟨_, rfl, hIH858, (JM_n hJH858), (e859.symm.trans ek0_2), m860⟩
          · refine g_aload_n rfl ?_
            refine g_gfr hIH858 sm_0 rfl ?_
            refine g_aload_n rfl ?_
            refine g_gfr hIH858 sm_0 rfl ?_
            refine g_iload rfl ?_
            refine g_iaload hIH858 sm_19 rfl (by first | with_reducible assumption | omega) (fun v870 ev870 lv870 uv870 => ?_)
            refine g_iaload hIH858 sm_18 rfl (by first | with_reducible assumption | omega) (fun v871 ev871 lv871 uv871 => ?_)
            refine g_iload_n rfl ?_
            refine g_if2_gt (fun c872 => ?_) (fun c872 => ?_)
            · refine g_aload_n rfl ?_
              refine g_gfr hIH858 sm_0 rfl ?_
              refine g_iload_n rfl ?_
              refine g_baload hIH858 sm_7 rfl (by first | with_reducible assumption | omega) (fun v873 ev873 lv873 uv873 => ?_)
              refine g_if_ne (fun c874 => ?_) (fun c874 => ?_)
              · refine g_aload_n rfl ?_
                refine g_gfr hIH858 sm_0 rfl ?_
                refine g_iload_n rfl ?_
                refine g_baload hIH858 sm_16 rfl (by first | with_reducible assumption | omega) (fun v875 ev875 lv875 uv875 => ?_)
                refine g_if_eq (fun c876 => ?_) (fun c876 => ?_)
                · refine g_iload_n rfl ?_
                  refine g_nop ?_
                  exact g_iret ⟨_, rfl, hIH858, (JM_n hJH858), (e859.symm.trans ek0_2), m860⟩
                · refine g_bipush (by decide) (fun v877 kv877 => ?_)
                  refine g_goto ?_
                  exact g_iret ⟨_, rfl, hIH858, (JM_n hJH858), (e859.symm.trans ek0_2), m860⟩
              · refine g_bipush (by decide) (fun v878 kv878 => ?_)
                refine g_goto ?_
                exact g_iret ⟨_, rfl, hIH858, (JM_n hJH858), (e859.symm.trans ek0_2), m860⟩
            · refine g_aload_n rfl ?_
              refine g_gfr hIH858 sm_0 rfl ?_
              refine g_iload_n rfl ?_
              refine g_baload hIH858 sm_7 rfl (by first | with_reducible assumption | omega) (fun v879 ev879 lv879 uv879 => ?_)
              refine g_istore (l' := [(0, .ref 0), (1, .int a1), (2, .int a2), (3, .int v856), (4, .int v857), (5, .int v879)]) rfl rfl ?_
              refine g_aload_n rfl ?_
              refine g_iload_n rfl ?_
              refine g_invvl hIH858 sm_0 rfl rfl rfl rfl (s_241 a1 H858 hIH858 hJH858) (fun v882 H880 r881 => ?_)
              obtain rfl := r881
              refine g_lstore (l' := [(0, .ref 0), (1, .int a1), (2, .int a2), (3, .int v856), (4, .int v857), (5, .int v879), (6, .long v882)]) rfl rfl ?_
              refine g_aload_n rfl ?_
              refine g_aload_n rfl ?_
              refine g_gfr hIH858 sm_0 rfl ?_
              refine g_iload rfl ?_
              refine g_ialoadk hIH858 sm_19 rfl (by first | with_reducible assumption | omega) ev870 ?_
              refine g_invvv hIH858 sm_0 rfl rfl rfl rfl (s_192 v870 (by first | with_reducible assumption | omega) H858 hIH858 hJH858) (fun H883 r884 => ?_)
              obtain ⟨hIH883, hJH883, m885, m886, m887, m888, m889⟩ := r884
              have e890 : k0_2 = fZ H883 0 2 := e859.trans (m885 0 2).symm
              have m891 : kpM H H883 := kpM_t m860 m889
              refine g_aload_n rfl ?_
              refine g_gfr hIH883 sm_0 rfl ?_
              refine g_iload_n rfl ?_
              refine g_baload hIH883 sm_7 rfl (by first | with_reducible assumption | omega) (fun v892 ev892 lv892 uv892 => ?_)
              refine g_if_eq (fun c893 => ?_) (fun c893 => ?_)
              · refine g_iinc (l' := (fun v894 => [(0, .ref 0), (1, .int a1), (2, .int a2), (3, .int v856), (4, .int v894), (5, .int v879), (6, .long v882)])) rfl rfl (by decide) (by first | with_reducible assumption | omega) (fun _ => rfl) (fun v894 ev894 => ?_)
                refine g_goto ?_
                refine gG_pick [0, 1, 2, 3, 4] (l' := [(0, .ref 0), (1, .int a1), (2, .int a2), (3, .int v856), (4, .int v894)]) rfl ?_
                exact ihL861 v856 v894 H883 hIH883 hJH883 e890 m891 (by first | with_reducible assumption | omega) (by first | with_reducible assumption | omega)
              · refine g_iload rfl ?_
                refine g_if_eq (fun c895 => ?_) (fun c895 => ?_)
                · refine g_aload_n rfl ?_
                  refine g_gfr hIH883 sm_0 rfl ?_
                  refine g_aload_n rfl ?_
                  refine g_gfr hIH883 sm_0 rfl ?_
                  refine g_iload rfl ?_
                  refine g_iaload hIH883 sm_19 rfl (by first | with_reducible assumption | omega) (fun v896 ev896 lv896 uv896 => ?_)
                  refine g_iaload hIH883 sm_18 rfl (by first | with_reducible assumption | omega) (fun v897 ev897 lv897 uv897 => ?_)
                  refine g_istore_n (l' := [(0, .ref 0), (1, .int a1), (2, .int a2), (3, .int v897), (4, .int v857), (5, .int v879), (6, .long v882)]) rfl rfl ?_
                  refine g_nop ?_
                  refine g_iinc (l' := (fun v898 => [(0, .ref 0), (1, .int a1), (2, .int a2), (3, .int v897), (4, .int v898), (5, .int v879), (6, .long v882)])) rfl rfl (by decide) (by first | with_reducible assumption | omega) (fun _ => rfl) (fun v898 ev898 => ?_)
                  refine g_goto ?_
                  refine gG_pick [0, 1, 2, 3, 4] (l' := [(0, .ref 0), (1, .int a1), (2, .int a2), (3, .int v897), (4, .int v898)]) rfl ?_
                  exact ihL861 v897 v898 H883 hIH883 hJH883 e890 m891 (by first | with_reducible assumption | omega) (by first | with_reducible assumption | omega)
                · refine g_aload_n rfl ?_
                  refine g_iload_n rfl ?_
                  refine g_invvl hIH883 sm_0 rfl rfl rfl rfl (s_241 a1 H883 hIH883 hJH883) (fun v901 H899 r900 => ?_)
                  obtain rfl := r900
                  refine g_lload rfl ?_
                  refine g_lcmp (fun v902 _ => ?_)
                  refine g_if_eq (fun c903 => ?_) (fun c903 => ?_)
                  · refine g_iinc (l' := (fun v904 => [(0, .ref 0), (1, .int a1), (2, .int a2), (3, .int v856), (4, .int v904), (5, .int v879), (6, .long v882)])) rfl rfl (by decide) (by first | with_reducible assumption | omega) (fun _ => rfl) (fun v904 ev904 => ?_)
                    refine g_goto ?_
                    refine gG_pick [0, 1, 2, 3, 4] (l' := [(0, .ref 0), (1, .int a1), (2, .int a2), (3, .int v856), (4, .int v904)]) rfl ?_
                    exact ihL861 v856 v904 H883 hIH883 hJH883 e890 m891 (by first | with_reducible assumption | omega) (by first | with_reducible assumption | omega)
                  · refine g_nop ?_
                    refine g_aload_n rfl ?_
                    refine g_gfr hIH883 sm_0 rfl ?_
                    refine g_aload_n rfl ?_
                    refine g_gfr hIH883 sm_0 rfl ?_
                    refine g_iload rfl ?_
                    refine g_iaload hIH883 sm_19 rfl (by first | with_reducible assumption | omega) (fun v905 ev905 lv905 uv905 => ?_)
                    refine g_iaload hIH883 sm_18 rfl (by first | with_reducible assumption | omega) (fun v906 ev906 lv906 uv906 => ?_)
                    refine g_istore_n (l' := [(0, .ref 0), (1, .int a1), (2, .int a2), (3, .int v906), (4, .int v857), (5, .int v879), (6, .long v882)]) rfl rfl ?_
                    refine g_nop ?_
                    refine g_iinc (l' := (fun v907 => [(0, .ref 0), (1, .int a1), (2, .int a2), (3, .int v906), (4, .int v907), (5, .int v879), (6, .long v882)])) rfl rfl (by decide) (by first | with_reducible assumption | omega) (fun _ => rfl) (fun v907 ev907 => ?_)
                    refine g_goto ?_
                    refine gG_pick [0, 1, 2, 3, 4] (l' := [(0, .ref 0), (1, .int a1), (2, .int a2), (3, .int v906), (4, .int v907)]) rfl ?_
                    exact ihL861 v906 v907 H883 hIH883 hJH883 e890 m891 (by first | with_reducible assumption | omega) (by first | with_reducible assumption | omega)
      exact L861 _ v854 v855 H845 hIH845 hJH845 e852 m853 (by first | with_reducible assumption | omega) (Nat.lt_succ_self _)
    · refine g_nop ?_
      refine g_iconst (by decide) (fun v908 kv908 => ?_)
      exact g_iret ⟨_, rfl, hIH824, hJH824, (e825.symm.trans ek0_2), m826⟩
set_option maxRecDepth 4000 in
set_option maxHeartbeats 4000000 in
/-- M.components -/
theorem s_243 (a1 : Int32) (a2 : Int32) (H : mzH) (hI : gI SM H) (hJ : JN H) : gCall 243 [.ref 0, .int a1, .int a2] H (gRi (fun v H' => gI SM H' ∧ JN H' ∧ fZ H' 0 2 = fZ H 0 2 ∧ kpM H H')) := by
  obtain ⟨k0_2, ek0_2⟩ : ∃ z, z = fZ H 0 2 := ⟨_, rfl⟩
  have ik0_2 : k0_2.toInt = (fZ H 0 2).toInt := by rw [← ek0_2]
  have bk0_2 : 0 ≤ k0_2.toInt ∧ k0_2.toInt ≤ 900 := by rw [ek0_2]; exact fZ_of hI sm_0 rfl
  have mkfr : kpM H H := kpM_r
  refine gG_call [(0, .ref 0), (1, .int a1), (2, .int a2)] ⟨rfl, rfl, rfl, trivial⟩ ?_
  show gG 6 zB_243 (mzBlk zB_243 0) [(0, .ref 0), (1, .int a1), (2, .int a2)] [] H 0 0 _
  refine g_aload_n rfl ?_
  refine g_iconst (by decide) (fun v1503 kv1503 => ?_)
  refine g_pfi hI sm_0 rfl (gz_any _) (fun H1504 eH1504 hIH1504 => ?_)
  have hJH1504 : JN H1504 := JN_sF eH1504 hJ
  have e1505 : k0_2 = fZ H1504 0 2 := by rw [eH1504, fZ_sF_ne (by decide)]; exact ek0_2
  have m1506 : kpM H H1504 := kpM_F mkfr eH1504 (by first | with_reducible assumption | omega)
  refine g_aload_n rfl ?_
  refine g_iload_n rfl ?_
  refine g_invvi hIH1504 sm_0 rfl rfl rfl rfl (s_210 a1 H1504 hIH1504 hJH1504) (fun v1509 H1507 r1508 => ?_)
  obtain ⟨rfl, bv1509, p1510⟩ := r1508
  refine g_if_eq (fun c1511 => ?_) (fun c1511 => ?_)
  · refine g_iconst (by decide) (fun v1512 kv1512 => ?_)
    exact g_iret ⟨_, rfl, hIH1504, hJH1504, (e1505.symm.trans ek0_2), m1506⟩
  · refine g_iload_n rfl ?_
    refine g_invti rfl rfl rfl (s_206 a2 H1504 hIH1504 hJH1504) (fun v1515 H1513 r1514 => ?_)
    obtain ⟨rfl, bv1515⟩ := r1514
    refine g_if_ne (fun c1516 => ?_) (fun c1516 => ?_)
    · refine g_aload_n rfl ?_
      refine g_iload_n rfl ?_
      refine g_invvv hIH1504 sm_0 rfl rfl rfl rfl (s_200 a2 H1504 hIH1504 hJH1504) (fun H1517 r1518 => ?_)
      obtain ⟨hIH1517, hJH1517, w1519, m1520⟩ := r1518
      have e1521 : k0_2 = fZ H1517 0 2 := e1505.trans w1519.symm
      have m1522 : kpM H H1517 := kpM_t m1506 m1520
      refine g_iconst (by decide) (fun v1523 kv1523 => ?_)
      refine g_istore_n (l' := [(0, .ref 0), (1, .int a1), (2, .int a2), (3, .int v1523)]) rfl rfl ?_
      refine g_iconst (by decide) (fun v1524 kv1524 => ?_)
      refine g_istore (l' := [(0, .ref 0), (1, .int a1), (2, .int a2), (3, .int v1523), (4, .int v1524)]) rfl rfl ?_
      refine g_nop ?_
      have L1527 : ∀ (N : Nat) (v1525 : Int32) (v1526 : Int32), (0 ≤ v1526.toInt ∧ v1526.toInt ≤ 40) → (40 - v1526.toInt).toNat < N → gG 6 zB_243 (mzBlk zB_243 3) [(0, .ref 0), (1, .int a1), (2, .int a2), (3, .int v1525), (4, .int v1526)] [] H1517 0 0 (gRi (fun v H' => gI SM H' ∧ JN H' ∧ fZ H' 0 2 = fZ H 0 2 ∧ kpM H H')) := by
        intro N
        induction N with
        | zero => intro v1525 v1526 bv1526 hmL1527; exact absurd hmL1527 (Nat.not_lt_zero _)
        | succ N ihL1527 =>
          intro v1525 v1526 bv1526 hmL1527
          refine g_iload rfl ?_
          refine g_bipush (by decide) (fun v1528 kv1528 => ?_)
          refine g_if2_ge (fun c1529 => ?_) (fun c1529 => ?_)
          · refine g_iload_n rfl ?_
            exact g_iret ⟨_, rfl, hIH1517, (JM_n hJH1517), (e1521.symm.trans ek0_2), m1522⟩
          · refine g_aload_n rfl ?_
            refine g_gfr hIH1517 sm_0 rfl ?_
            refine g_iload rfl ?_
            refine g_iaload hIH1517 sm_9 rfl (by first | with_reducible assumption | omega) (fun v1530 ev1530 lv1530 uv1530 => ?_)
            have qv1530 := JM_in hJH1517 (by first | with_reducible assumption | omega) ev1530
            refine g_bipush (by decide) (fun v1531 kv1531 => ?_)
            refine g_if2_eq (fun c1532 => ?_) (fun c1532 => ?_)
            · refine g_iconst (by decide) (fun v1533 kv1533 => ?_)
              refine g_goto ?_
              refine g_istore (l' := [(0, .ref 0), (1, .int a1), (2, .int a2), (3, .int v1525), (4, .int v1526), (5, .int v1533)]) rfl rfl ?_
              refine g_iload_n rfl ?_
              refine g_aload_n rfl ?_
              refine g_iload rfl ?_
              refine g_invvi hIH1517 sm_0 rfl rfl rfl rfl (s_201 v1526 (by first | with_reducible assumption | omega) H1517 hIH1517 hJH1517) (fun v1536 H1534 r1535 => ?_)
              obtain ⟨rfl, bv1536⟩ := r1535
              refine g_iload_n rfl ?_
              refine g_if2_ne (fun c1537 => ?_) (fun c1537 => ?_)
              · refine g_iconst (by decide) (fun v1538 kv1538 => ?_)
                refine g_nop ?_
                refine g_iadd (by have := gz_any v1525; omega) (fun v1539 ev1539 => ?_)
                refine g_istore_n (l' := [(0, .ref 0), (1, .int a1), (2, .int a2), (3, .int v1539), (4, .int v1526), (5, .int v1533)]) rfl rfl ?_
                refine g_iinc (l' := (fun v1540 => [(0, .ref 0), (1, .int a1), (2, .int a2), (3, .int v1539), (4, .int v1540), (5, .int v1533)])) rfl rfl (by decide) (by first | with_reducible assumption | omega) (fun _ => rfl) (fun v1540 ev1540 => ?_)
                refine g_goto ?_
                refine gG_pick [0, 1, 2, 3, 4] (l' := [(0, .ref 0), (1, .int a1), (2, .int a2), (3, .int v1539), (4, .int v1540)]) rfl ?_
                exact ihL1527 v1539 v1540 (by first | with_reducible assumption | omega) (by first | with_reducible assumption | omega)
              · refine g_iload rfl ?_
                refine g_if_eq (fun c1541 => ?_) (fun c1541 => ?_)
                · exfalso; omega
                · refine g_iconst (by decide) (fun v1542 kv1542 => ?_)
                  refine g_goto ?_
                  refine g_iadd' (fun v1543 ov1543 => ?_)
                  refine g_istore_n (l' := [(0, .ref 0), (1, .int a1), (2, .int a2), (3, .int v1543), (4, .int v1526), (5, .int v1533)]) rfl rfl ?_
                  refine g_iinc (l' := (fun v1544 => [(0, .ref 0), (1, .int a1), (2, .int a2), (3, .int v1543), (4, .int v1544), (5, .int v1533)])) rfl rfl (by decide) (by first | with_reducible assumption | omega) (fun _ => rfl) (fun v1544 ev1544 => ?_)
                  refine g_goto ?_
                  refine gG_pick [0, 1, 2, 3, 4] (l' := [(0, .ref 0), (1, .int a1), (2, .int a2), (3, .int v1543), (4, .int v1544)]) rfl ?_
                  exact ihL1527 v1543 v1544 (by first | with_reducible assumption | omega) (by first | with_reducible assumption | omega)
            · refine g_aload_n rfl ?_
              refine g_gfr hIH1517 sm_0 rfl ?_
              refine g_aload_n rfl ?_
              refine g_gfr hIH1517 sm_0 rfl ?_
              refine g_iload rfl ?_
              refine g_ialoadk hIH1517 sm_9 rfl (by first | with_reducible assumption | omega) ev1530 ?_
              refine g_baload hIH1517 sm_13 rfl (by first | with_reducible assumption | omega) (fun v1545 ev1545 lv1545 uv1545 => ?_)
              refine g_if_eq (fun c1546 => ?_) (fun c1546 => ?_)
              · refine g_iconst (by decide) (fun v1547 kv1547 => ?_)
                refine g_nop ?_
                refine g_istore (l' := [(0, .ref 0), (1, .int a1), (2, .int a2), (3, .int v1525), (4, .int v1526), (5, .int v1547)]) rfl rfl ?_
                refine g_iload_n rfl ?_
                refine g_aload_n rfl ?_
                refine g_iload rfl ?_
                refine g_invvi hIH1517 sm_0 rfl rfl rfl rfl (s_201 v1526 (by first | with_reducible assumption | omega) H1517 hIH1517 hJH1517) (fun v1550 H1548 r1549 => ?_)
                obtain ⟨rfl, bv1550⟩ := r1549
                refine g_iload_n rfl ?_
                refine g_if2_ne (fun c1551 => ?_) (fun c1551 => ?_)
                · refine g_iconst (by decide) (fun v1552 kv1552 => ?_)
                  refine g_nop ?_
                  refine g_iadd (by have := gz_any v1525; omega) (fun v1553 ev1553 => ?_)
                  refine g_istore_n (l' := [(0, .ref 0), (1, .int a1), (2, .int a2), (3, .int v1553), (4, .int v1526), (5, .int v1547)]) rfl rfl ?_
                  refine g_iinc (l' := (fun v1554 => [(0, .ref 0), (1, .int a1), (2, .int a2), (3, .int v1553), (4, .int v1554), (5, .int v1547)])) rfl rfl (by decide) (by first | with_reducible assumption | omega) (fun _ => rfl) (fun v1554 ev1554 => ?_)
                  refine g_goto ?_
                  refine gG_pick [0, 1, 2, 3, 4] (l' := [(0, .ref 0), (1, .int a1), (2, .int a2), (3, .int v1553), (4, .int v1554)]) rfl ?_
                  exact ihL1527 v1553 v1554 (by first | with_reducible assumption | omega) (by first | with_reducible assumption | omega)
                · refine g_iload rfl ?_
                  refine g_if_eq (fun c1555 => ?_) (fun c1555 => ?_)
                  · refine g_iconst (by decide) (fun v1556 kv1556 => ?_)
                    refine g_nop ?_
                    refine g_iadd (by have := gz_any v1525; omega) (fun v1557 ev1557 => ?_)
                    refine g_istore_n (l' := [(0, .ref 0), (1, .int a1), (2, .int a2), (3, .int v1557), (4, .int v1526), (5, .int v1547)]) rfl rfl ?_
                    refine g_iinc (l' := (fun v1558 => [(0, .ref 0), (1, .int a1), (2, .int a2), (3, .int v1557), (4, .int v1558), (5, .int v1547)])) rfl rfl (by decide) (by first | with_reducible assumption | omega) (fun _ => rfl) (fun v1558 ev1558 => ?_)
                    refine g_goto ?_
                    refine gG_pick [0, 1, 2, 3, 4] (l' := [(0, .ref 0), (1, .int a1), (2, .int a2), (3, .int v1557), (4, .int v1558)]) rfl ?_
                    exact ihL1527 v1557 v1558 (by first | with_reducible assumption | omega) (by first | with_reducible assumption | omega)
                  · exfalso; omega
              · refine g_nop ?_
                refine g_iconst (by decide) (fun v1559 kv1559 => ?_)
                refine g_goto ?_
                refine g_istore (l' := [(0, .ref 0), (1, .int a1), (2, .int a2), (3, .int v1525), (4, .int v1526), (5, .int v1559)]) rfl rfl ?_
                refine g_iload_n rfl ?_
                refine g_aload_n rfl ?_
                refine g_iload rfl ?_
                refine g_invvi hIH1517 sm_0 rfl rfl rfl rfl (s_201 v1526 (by first | with_reducible assumption | omega) H1517 hIH1517 hJH1517) (fun v1562 H1560 r1561 => ?_)
                obtain ⟨rfl, bv1562⟩ := r1561
                refine g_iload_n rfl ?_
                refine g_if2_ne (fun c1563 => ?_) (fun c1563 => ?_)
                · refine g_iconst (by decide) (fun v1564 kv1564 => ?_)
                  refine g_nop ?_
                  refine g_iadd (by have := gz_any v1525; omega) (fun v1565 ev1565 => ?_)
                  refine g_istore_n (l' := [(0, .ref 0), (1, .int a1), (2, .int a2), (3, .int v1565), (4, .int v1526), (5, .int v1559)]) rfl rfl ?_
                  refine g_iinc (l' := (fun v1566 => [(0, .ref 0), (1, .int a1), (2, .int a2), (3, .int v1565), (4, .int v1566), (5, .int v1559)])) rfl rfl (by decide) (by first | with_reducible assumption | omega) (fun _ => rfl) (fun v1566 ev1566 => ?_)
                  refine g_goto ?_
                  refine gG_pick [0, 1, 2, 3, 4] (l' := [(0, .ref 0), (1, .int a1), (2, .int a2), (3, .int v1565), (4, .int v1566)]) rfl ?_
                  exact ihL1527 v1565 v1566 (by first | with_reducible assumption | omega) (by first | with_reducible assumption | omega)
                · refine g_iload rfl ?_
                  refine g_if_eq (fun c1567 => ?_) (fun c1567 => ?_)
                  · exfalso; omega
                  · refine g_iconst (by decide) (fun v1568 kv1568 => ?_)
                    refine g_goto ?_
                    refine g_iadd' (fun v1569 ov1569 => ?_)
                    refine g_istore_n (l' := [(0, .ref 0), (1, .int a1), (2, .int a2), (3, .int v1569), (4, .int v1526), (5, .int v1559)]) rfl rfl ?_
                    refine g_iinc (l' := (fun v1570 => [(0, .ref 0), (1, .int a1), (2, .int a2), (3, .int v1569), (4, .int v1570), (5, .int v1559)])) rfl rfl (by decide) (by first | with_reducible assumption | omega) (fun _ => rfl) (fun v1570 ev1570 => ?_)
                    refine g_goto ?_
                    refine gG_pick [0, 1, 2, 3, 4] (l' := [(0, .ref 0), (1, .int a1), (2, .int a2), (3, .int v1569), (4, .int v1570)]) rfl ?_
                    exact ihL1527 v1569 v1570 (by first | with_reducible assumption | omega) (by first | with_reducible assumption | omega)
      exact L1527 _ v1523 v1524 (by first | with_reducible assumption | omega) (Nat.lt_succ_self _)
    · refine g_nop ?_
      refine g_iconst (by decide) (fun v1571 kv1571 => ?_)
      exact g_iret ⟨_, rfl, hIH1504, hJH1504, (e1505.symm.trans ek0_2), m1506⟩
set_option maxRecDepth 4000 in
set_option maxHeartbeats 4000000 in
/-- M.soonest -/
theorem s_245 (a1 : Int32) (a2 : Int32) (a3 : Int32) (H : mzH) (hI : gI SM H) (hJ : JN H) : gCall 245 [.ref 0, .int a1, .int a2, .int a3] H (gRi (fun v H' => gI SM H' ∧ JN H' ∧ fZ H' 0 2 = fZ H 0 2 ∧ kpM H H')) := by
  obtain ⟨k0_2, ek0_2⟩ : ∃ z, z = fZ H 0 2 := ⟨_, rfl⟩
  have ik0_2 : k0_2.toInt = (fZ H 0 2).toInt := by rw [← ek0_2]
  have bk0_2 : 0 ≤ k0_2.toInt ∧ k0_2.toInt ≤ 900 := by rw [ek0_2]; exact fZ_of hI sm_0 rfl
  have mkfr : kpM H H := kpM_r
  refine gG_call [(0, .ref 0), (1, .int a1), (2, .int a2), (3, .int a3)] ⟨rfl, rfl, rfl, rfl, trivial⟩ ?_
  show gG 7 zB_245 (mzBlk zB_245 0) [(0, .ref 0), (1, .int a1), (2, .int a2), (3, .int a3)] [] H 0 0 _
  refine g_aload_n rfl ?_
  refine g_iconst (by decide) (fun v189 kv189 => ?_)
  refine g_pfi hI sm_0 rfl (gz_any _) (fun H190 eH190 hIH190 => ?_)
  have hJH190 : JN H190 := JN_sF eH190 hJ
  have e191 : k0_2 = fZ H190 0 2 := by rw [eH190, fZ_sF_ne (by decide)]; exact ek0_2
  have m192 : kpM H H190 := kpM_F mkfr eH190 (by first | with_reducible assumption | omega)
  refine g_iload_n rfl ?_
  refine g_invti rfl rfl rfl (s_205 a1 H190 hIH190 hJH190) (fun v195 H193 r194 => ?_)
  obtain ⟨rfl, bv195, p196⟩ := r194
  refine g_if_eq (fun c197 => ?_) (fun c197 => ?_)
  · refine g_iconst (by decide) (fun v198 kv198 => ?_)
    exact g_iret ⟨_, rfl, hIH190, hJH190, (e191.symm.trans ek0_2), m192⟩
  · refine g_iload_n rfl ?_
    refine g_invti rfl rfl rfl (s_206 a2 H190 hIH190 hJH190) (fun v201 H199 r200 => ?_)
    obtain ⟨rfl, bv201⟩ := r200
    refine g_if_eq (fun c202 => ?_) (fun c202 => ?_)
    · refine g_iconst (by decide) (fun v203 kv203 => ?_)
      exact g_iret ⟨_, rfl, hIH190, hJH190, (e191.symm.trans ek0_2), m192⟩
    · refine g_aload_n rfl ?_
      refine g_iload_n rfl ?_
      refine g_invvi hIH190 sm_0 rfl rfl rfl rfl (s_210 a3 H190 hIH190 hJH190) (fun v206 H204 r205 => ?_)
      obtain ⟨rfl, bv206, p207⟩ := r205
      refine g_if_ne (fun c208 => ?_) (fun c208 => ?_)
      · refine g_aload_n rfl ?_
        refine g_iload_n rfl ?_
        refine g_invvv hIH190 sm_0 rfl rfl rfl rfl (s_200 a2 H190 hIH190 hJH190) (fun H209 r210 => ?_)
        obtain ⟨hIH209, hJH209, w211, m212⟩ := r210
        have e213 : k0_2 = fZ H209 0 2 := e191.trans w211.symm
        have m214 : kpM H H209 := kpM_t m192 m212
        refine g_aload_n rfl ?_
        refine g_iload_n rfl ?_
        refine g_invvi hIH209 sm_0 rfl rfl rfl rfl (s_201 a1 (by first | with_reducible assumption | omega) H209 hIH209 hJH209) (fun v217 H215 r216 => ?_)
        obtain ⟨rfl, bv217⟩ := r216
        refine g_istore (l' := [(0, .ref 0), (1, .int a1), (2, .int a2), (3, .int a3), (4, .int v217)]) rfl rfl ?_
        refine g_iload rfl ?_
        refine g_if_lt (fun c218 => ?_) (fun c218 => ?_)
        · refine g_iload rfl ?_
          refine g_if_ge (fun c219 => ?_) (fun c219 => ?_)
          · exfalso; omega
          · refine g_iload rfl ?_
            refine g_goto ?_
            exact g_iret ⟨_, rfl, hIH209, (JM_n hJH209), (e213.symm.trans ek0_2), m214⟩
        · refine g_iload rfl ?_
          refine g_iload_n rfl ?_
          refine g_if2_ne (fun c220 => ?_) (fun c220 => ?_)
          · refine g_aload_n rfl ?_
            refine g_gfr hIH209 sm_0 rfl ?_
            refine g_bipush (by decide) (fun v221 kv221 => ?_)
            refine g_iload rfl ?_
            refine g_imulk' (n := 8) kv221 (by first | with_reducible assumption | omega) (fun v222 ev222 => ?_)
            refine g_iload_n rfl ?_
            refine g_iadd (by first | with_reducible assumption | omega) (fun v223 ev223 => ?_)
            refine g_iaload hIH209 sm_6 rfl (by first | with_reducible assumption | omega) (fun v224 ev224 lv224 uv224 => ?_)
            refine g_istore (l' := [(0, .ref 0), (1, .int a1), (2, .int a2), (3, .int a3), (4, .int v217), (5, .int v224)]) rfl rfl ?_
            refine g_iload rfl ?_
            refine g_ldc (by decide) (fun v225 kv225 => ?_)
            refine g_if2_lt (fun c226 => ?_) (fun c226 => ?_)
            · refine g_aload_n rfl ?_
              refine g_gfr hIH209 sm_0 rfl ?_
              refine g_aload_n rfl ?_
              refine g_iload_n rfl ?_
              refine g_invvi hIH209 sm_0 rfl rfl rfl rfl (s_185 a1 (by first | with_reducible assumption | omega) H209 hIH209 hJH209) (fun v229 H227 r228 => ?_)
              obtain ⟨rfl, bv229⟩ := r228
              refine g_iaload hIH209 sm_11 rfl (by first | with_reducible assumption | omega) (fun v230 ev230 lv230 uv230 => ?_)
              refine g_iload rfl ?_
              refine g_iadd' (fun v231 ov231 => ?_)
              refine g_istore (l' := [(0, .ref 0), (1, .int a1), (2, .int a2), (3, .int a3), (4, .int v217), (5, .int v224), (6, .int v231)]) rfl rfl ?_
              refine g_iload rfl ?_
              refine g_iload_n rfl ?_
              refine g_if2_le (fun c232 => ?_) (fun c232 => ?_)
              · refine g_iload_n rfl ?_
                refine g_nop ?_
                exact g_iret ⟨_, rfl, hIH209, (JM_n hJH209), (e213.symm.trans ek0_2), m214⟩
              · refine g_iload rfl ?_
                refine g_goto ?_
                exact g_iret ⟨_, rfl, hIH209, (JM_n hJH209), (e213.symm.trans ek0_2), m214⟩
            · refine g_bipush (by decide) (fun v233 kv233 => ?_)
              exact g_iret ⟨_, rfl, hIH209, (JM_n hJH209), (e213.symm.trans ek0_2), m214⟩
          · refine g_nop ?_
            refine g_iload rfl ?_
            refine g_if_ge (fun c234 => ?_) (fun c234 => ?_)
            · refine g_iload_n rfl ?_
              refine g_nop ?_
              exact g_iret ⟨_, rfl, hIH209, (JM_n hJH209), (e213.symm.trans ek0_2), m214⟩
            · exfalso; omega
      · refine g_nop ?_
        refine g_iconst (by decide) (fun v235 kv235 => ?_)
        exact g_iret ⟨_, rfl, hIH190, hJH190, (e191.symm.trans ek0_2), m192⟩
set_option maxRecDepth 4000 in
set_option maxHeartbeats 4000000 in
/-- M.lost -/
theorem s_246 (a1 : Int32) (a2 : Int32) (a3 : Int32) (H : mzH) (hI : gI SM H) (hJ : JN H) : gCall 246 [.ref 0, .int a1, .int a2, .int a3] H (gRi (fun v H' => gI SM H' ∧ JN H' ∧ fZ H' 0 2 = fZ H 0 2 ∧ kpM H H')) := by
  obtain ⟨k0_2, ek0_2⟩ : ∃ z, z = fZ H 0 2 := ⟨_, rfl⟩
  have ik0_2 : k0_2.toInt = (fZ H 0 2).toInt := by rw [← ek0_2]
  have bk0_2 : 0 ≤ k0_2.toInt ∧ k0_2.toInt ≤ 900 := by rw [ek0_2]; exact fZ_of hI sm_0 rfl
  have mkfr : kpM H H := kpM_r
  refine gG_call [(0, .ref 0), (1, .int a1), (2, .int a2), (3, .int a3)] ⟨rfl, rfl, rfl, rfl, trivial⟩ ?_
  show gG 6 zB_246 (mzBlk zB_246 0) [(0, .ref 0), (1, .int a1), (2, .int a2), (3, .int a3)] [] H 0 0 _
  refine g_aload_n rfl ?_
  refine g_iconst (by decide) (fun v361 kv361 => ?_)
  refine g_pfi hI sm_0 rfl (gz_any _) (fun H362 eH362 hIH362 => ?_)
  have hJH362 : JN H362 := JN_sF eH362 hJ
  have e363 : k0_2 = fZ H362 0 2 := by rw [eH362, fZ_sF_ne (by decide)]; exact ek0_2
  have m364 : kpM H H362 := kpM_F mkfr eH362 (by first | with_reducible assumption | omega)
  refine g_iload_n rfl ?_
  refine g_invti rfl rfl rfl (s_206 a1 H362 hIH362 hJH362) (fun v367 H365 r366 => ?_)
  obtain ⟨rfl, bv367⟩ := r366
  refine g_if_eq (fun c368 => ?_) (fun c368 => ?_)
  · refine g_iconst (by decide) (fun v369 kv369 => ?_)
    exact g_iret ⟨_, rfl, hIH362, hJH362, (e363.symm.trans ek0_2), m364⟩
  · refine g_iload_n rfl ?_
    refine g_invti rfl rfl rfl (s_206 a2 H362 hIH362 hJH362) (fun v372 H370 r371 => ?_)
    obtain ⟨rfl, bv372⟩ := r371
    refine g_if_eq (fun c373 => ?_) (fun c373 => ?_)
    · refine g_iconst (by decide) (fun v374 kv374 => ?_)
      exact g_iret ⟨_, rfl, hIH362, hJH362, (e363.symm.trans ek0_2), m364⟩
    · refine g_iload_n rfl ?_
      refine g_if_ge (fun c375 => ?_) (fun c375 => ?_)
      · refine g_aload_n rfl ?_
        refine g_iload_n rfl ?_
        refine g_invvv hIH362 sm_0 rfl rfl rfl rfl (s_200 a1 H362 hIH362 hJH362) (fun H376 r377 => ?_)
        obtain ⟨hIH376, hJH376, w378, m379⟩ := r377
        have e380 : k0_2 = fZ H376 0 2 := e363.trans w378.symm
        have m381 : kpM H H376 := kpM_t m364 m379
        refine g_iload_n rfl ?_
        refine g_istore (l' := [(0, .ref 0), (1, .int a1), (2, .int a2), (3, .int a3), (4, .int a3)]) rfl rfl ?_
        refine g_iconst (by decide) (fun v382 kv382 => ?_)
        refine g_istore (l' := [(0, .ref 0), (1, .int a1), (2, .int a2), (3, .int a3), (4, .int a3), (5, .int v382)]) rfl rfl ?_
        refine g_nop ?_
        have L385 : ∀ (N : Nat) (v383 : Int32) (v384 : Int32), (0 ≤ v383.toInt ∧ v383.toInt ≤ 2147483647) → (0 ≤ v384.toInt ∧ v384.toInt ≤ 40) → (40 - v384.toInt).toNat < N → gG 6 zB_246 (mzBlk zB_246 3) [(0, .ref 0), (1, .int a1), (2, .int a2), (3, .int a3), (4, .int v383), (5, .int v384)] [] H376 0 0 (gRi (fun v H' => gI SM H' ∧ JN H' ∧ fZ H' 0 2 = fZ H 0 2 ∧ kpM H H')) := by
          intro N
          induction N with
          | zero => intro v383 v384 bv383 bv384 hmL385; exact absurd hmL385 (Nat.not_lt_zero _)
          | succ N ihL385 =>
            intro v383 v384 bv383 bv384 hmL385
            refine g_iload rfl ?_
            refine g_bipush (by decide) (fun v386 kv386 => ?_)
            refine g_if2_ge (fun c387 => ?_) (fun c387 => ?_)
            · refine g_bipush (by decide) (fun v388 kv388 => ?_)
              exact g_iret ⟨_, rfl, hIH376, (JM_n hJH376), (e380.symm.trans ek0_2), m381⟩
            · refine g_aload_n rfl ?_
              refine g_iload rfl ?_
              refine g_invvi hIH376 sm_0 rfl rfl rfl rfl (s_201 v384 (by first | with_reducible assumption | omega) H376 hIH376 hJH376) (fun v391 H389 r390 => ?_)
              obtain ⟨rfl, bv391⟩ := r390
              refine g_if_lt (fun c392 => ?_) (fun c392 => ?_)
              · refine g_iinc (l' := (fun v393 => [(0, .ref 0), (1, .int a1), (2, .int a2), (3, .int a3), (4, .int v383), (5, .int v393)])) rfl rfl (by decide) (by first | with_reducible assumption | omega) (fun _ => rfl) (fun v393 ev393 => ?_)
                refine g_goto ?_
                exact ihL385 v383 v393 (by have := gz_any v383; omega) (by first | with_reducible assumption | omega) (by first | with_reducible assumption | omega)
              · refine g_iload_n rfl ?_
                refine g_aload_n rfl ?_
                refine g_gfr hIH376 sm_0 rfl ?_
                refine g_aload_n rfl ?_
                refine g_iload rfl ?_
                refine g_invvi hIH376 sm_0 rfl rfl rfl rfl (s_185 v384 (by first | with_reducible assumption | omega) H376 hIH376 hJH376) (fun v396 H394 r395 => ?_)
                obtain ⟨rfl, bv396⟩ := r395
                refine g_iaload hIH376 sm_11 rfl (by first | with_reducible assumption | omega) (fun v397 ev397 lv397 uv397 => ?_)
                refine g_isub' (fun v398 ov398 => ?_)
                refine g_iload_n rfl ?_
                refine g_if2_ge (fun c399 => ?_) (fun c399 => ?_)
                · refine g_iload rfl ?_
                  refine g_if_ne (fun c400 => ?_) (fun c400 => ?_)
                  · refine g_iinc (l' := (fun v401 => [(0, .ref 0), (1, .int a1), (2, .int a2), (3, .int a3), (4, .int v401), (5, .int v384)])) rfl rfl (by decide) (by have := gz_any v383; omega) (fun _ => rfl) (fun v401 ev401 => ?_)
                    refine g_nop ?_
                    refine g_iinc (l' := (fun v402 => [(0, .ref 0), (1, .int a1), (2, .int a2), (3, .int a3), (4, .int v401), (5, .int v402)])) rfl rfl (by decide) (by first | with_reducible assumption | omega) (fun _ => rfl) (fun v402 ev402 => ?_)
                    refine g_goto ?_
                    exact ihL385 v401 v402 (by have := gz_any v401; omega) (by first | with_reducible assumption | omega) (by first | with_reducible assumption | omega)
                  · refine g_iload rfl ?_
                    exact g_iret ⟨_, rfl, hIH376, (JM_n hJH376), (e380.symm.trans ek0_2), m381⟩
                · refine g_goto ?_
                  refine g_iinc (l' := (fun v403 => [(0, .ref 0), (1, .int a1), (2, .int a2), (3, .int a3), (4, .int v383), (5, .int v403)])) rfl rfl (by decide) (by first | with_reducible assumption | omega) (fun _ => rfl) (fun v403 ev403 => ?_)
                  refine g_goto ?_
                  exact ihL385 v383 v403 (by have := gz_any v383; omega) (by first | with_reducible assumption | omega) (by first | with_reducible assumption | omega)
        exact L385 _ a3 v382 (by have := gz_any a3; omega) (by first | with_reducible assumption | omega) (Nat.lt_succ_self _)
      · refine g_nop ?_
        refine g_iconst (by decide) (fun v404 kv404 => ?_)
        exact g_iret ⟨_, rfl, hIH362, hJH362, (e363.symm.trans ek0_2), m364⟩
set_option maxRecDepth 4000 in
set_option maxHeartbeats 4000000 in
/-- M.ifSwapped -/
theorem s_247 (a1 : Int32) (a2 : Int32) (a3 : Int32) (H : mzH) (hI : gI SM H) (hJ : JN H) : gCall 247 [.ref 0, .int a1, .int a2, .int a3] H (gRi (fun v H' => gI SM H' ∧ JN H' ∧ fZ H' 0 2 = fZ H 0 2 ∧ kpM H H')) := by
  obtain ⟨k0_2, ek0_2⟩ : ∃ z, z = fZ H 0 2 := ⟨_, rfl⟩
  have ik0_2 : k0_2.toInt = (fZ H 0 2).toInt := by rw [← ek0_2]
  have bk0_2 : 0 ≤ k0_2.toInt ∧ k0_2.toInt ≤ 900 := by rw [ek0_2]; exact fZ_of hI sm_0 rfl
  have mkfr : kpM H H := kpM_r
  refine gG_call [(0, .ref 0), (1, .int a1), (2, .int a2), (3, .int a3)] ⟨rfl, rfl, rfl, rfl, trivial⟩ ?_
  show gG 5 zB_247 (mzBlk zB_247 0) [(0, .ref 0), (1, .int a1), (2, .int a2), (3, .int a3)] [] H 0 0 _
  refine g_aload_n rfl ?_
  refine g_iconst (by decide) (fun v497 kv497 => ?_)
  refine g_pfi hI sm_0 rfl (gz_any _) (fun H498 eH498 hIH498 => ?_)
  have hJH498 : JN H498 := JN_sF eH498 hJ
  have e499 : k0_2 = fZ H498 0 2 := by rw [eH498, fZ_sF_ne (by decide)]; exact ek0_2
  have m500 : kpM H H498 := kpM_F mkfr eH498 (by first | with_reducible assumption | omega)
  refine g_iload_n rfl ?_
  refine g_if_lt (fun c501 => ?_) (fun c501 => ?_)
  · refine g_iconst (by decide) (fun v502 kv502 => ?_)
    refine g_nop ?_
    refine g_istore (l' := [(0, .ref 0), (1, .int a1), (2, .int a2), (3, .int a3), (4, .int v502)]) rfl rfl ?_
    refine g_iload rfl ?_
    refine g_if_ne (fun c503 => ?_) (fun c503 => ?_)
    · exfalso; omega
    · refine g_sipush (by decide) (fun v504 kv504 => ?_)
      exact g_iret ⟨_, rfl, hIH498, hJH498, (e499.symm.trans ek0_2), m500⟩
  · refine g_iload_n rfl ?_
    refine g_aload_n rfl ?_
    refine g_invvi hIH498 sm_0 rfl rfl rfl rfl (s_180 H498 hIH498 hJH498) (fun v507 H505 r506 => ?_)
    obtain ⟨rfl, bv507, p508⟩ := r506
    refine g_if2_ge (fun c509 => ?_) (fun c509 => ?_)
    · refine g_iconst (by decide) (fun v510 kv510 => ?_)
      refine g_nop ?_
      refine g_istore (l' := [(0, .ref 0), (1, .int a1), (2, .int a2), (3, .int a3), (4, .int v510)]) rfl rfl ?_
      refine g_iload rfl ?_
      refine g_if_ne (fun c511 => ?_) (fun c511 => ?_)
      · exfalso; omega
      · refine g_sipush (by decide) (fun v512 kv512 => ?_)
        exact g_iret ⟨_, rfl, hIH498, hJH498, (e499.symm.trans ek0_2), m500⟩
    · refine g_iload_n rfl ?_
      refine g_if_lt (fun c513 => ?_) (fun c513 => ?_)
      · refine g_iconst (by decide) (fun v514 kv514 => ?_)
        refine g_nop ?_
        refine g_istore (l' := [(0, .ref 0), (1, .int a1), (2, .int a2), (3, .int a3), (4, .int v514)]) rfl rfl ?_
        refine g_iload rfl ?_
        refine g_if_ne (fun c515 => ?_) (fun c515 => ?_)
        · exfalso; omega
        · refine g_sipush (by decide) (fun v516 kv516 => ?_)
          exact g_iret ⟨_, rfl, hIH498, hJH498, (e499.symm.trans ek0_2), m500⟩
      · refine g_iload_n rfl ?_
        refine g_aload_n rfl ?_
        refine g_invvi hIH498 sm_0 rfl rfl rfl rfl (s_180 H498 hIH498 hJH498) (fun v519 H517 r518 => ?_)
        obtain ⟨rfl, bv519, p520⟩ := r518
        refine g_if2_ge (fun c521 => ?_) (fun c521 => ?_)
        · refine g_iconst (by decide) (fun v522 kv522 => ?_)
          refine g_nop ?_
          refine g_istore (l' := [(0, .ref 0), (1, .int a1), (2, .int a2), (3, .int a3), (4, .int v522)]) rfl rfl ?_
          refine g_iload rfl ?_
          refine g_if_ne (fun c523 => ?_) (fun c523 => ?_)
          · exfalso; omega
          · refine g_sipush (by decide) (fun v524 kv524 => ?_)
            exact g_iret ⟨_, rfl, hIH498, hJH498, (e499.symm.trans ek0_2), m500⟩
        · refine g_iload_n rfl ?_
          refine g_iload_n rfl ?_
          refine g_if2_eq (fun c525 => ?_) (fun c525 => ?_)
          · refine g_iconst (by decide) (fun v526 kv526 => ?_)
            refine g_nop ?_
            refine g_istore (l' := [(0, .ref 0), (1, .int a1), (2, .int a2), (3, .int a3), (4, .int v526)]) rfl rfl ?_
            refine g_iload rfl ?_
            refine g_if_ne (fun c527 => ?_) (fun c527 => ?_)
            · exfalso; omega
            · refine g_sipush (by decide) (fun v528 kv528 => ?_)
              exact g_iret ⟨_, rfl, hIH498, hJH498, (e499.symm.trans ek0_2), m500⟩
          · refine g_iload_n rfl ?_
            refine g_iconst (by decide) (fun v529 kv529 => ?_)
            refine g_if2_eq (fun c530 => ?_) (fun c530 => ?_)
            · refine g_iconst (by decide) (fun v531 kv531 => ?_)
              refine g_goto ?_
              refine g_istore (l' := [(0, .ref 0), (1, .int a1), (2, .int a2), (3, .int a3), (4, .int v531)]) rfl rfl ?_
              refine g_iload rfl ?_
              refine g_if_ne (fun c532 => ?_) (fun c532 => ?_)
              · refine g_aload_n rfl ?_
                refine g_invvv hIH498 sm_0 rfl rfl rfl rfl (s_182 H498 hIH498 hJH498) (fun H533 r534 => ?_)
                obtain ⟨hIH533, hJH533, m535, m536, m537, p538⟩ := r534
                have e539 : k0_2 = fZ H533 0 2 := e499.trans (m535 0 2).symm
                have m540 : kpM H H533 := kpM_t m500 m537
                refine g_aload_n rfl ?_
                refine g_gfr hIH533 sm_0 rfl ?_
                refine g_iload_n rfl ?_
                refine g_aload_n rfl ?_
                refine g_iload_n rfl ?_
                refine g_iconst (by decide) (fun v541 kv541 => ?_)
                refine g_invvi hIH533 sm_0 rfl rfl rfl rfl (s_181 a2 (by first | with_reducible assumption | omega) v541 (by first | with_reducible assumption | omega) H533 hIH533 hJH533) (fun v544 H542 r543 => ?_)
                obtain ⟨rfl, p545⟩ := r543
                have tv544 : v544 = aZ H533 2 (69 + 5 * a2.toInt + 0).toNat := by rw [p545, kv541]
                refine g_iastore hIH533 sm_18 (by first | with_reducible assumption | omega) (gz_any _) (fun H546 eH546 hIH546 => ?_)
                have hJH546 : JN H546 := JN_sA (by decide) eH546 hJH533
                have e547 : k0_2 = fZ H546 0 2 := by rw [eH546, fZ_sA]; exact e539
                have m548 : kpM H H546 := kpM_A m540 eH546 (by first | with_reducible assumption | omega)
                refine g_aload_n rfl ?_
                refine g_gfr hIH546 sm_0 rfl ?_
                refine g_iload_n rfl ?_
                refine g_aload_n rfl ?_
                refine g_iload_n rfl ?_
                refine g_iconst (by decide) (fun v549 kv549 => ?_)
                refine g_invvi hIH546 sm_0 rfl rfl rfl rfl (s_181 a1 (by first | with_reducible assumption | omega) v549 (by first | with_reducible assumption | omega) H546 hIH546 hJH546) (fun v552 H550 r551 => ?_)
                obtain ⟨rfl, p553⟩ := r551
                have tv552 : v552 = aZ H546 2 (69 + 5 * a1.toInt + 0).toNat := by rw [p553, kv549]
                refine g_iastore hIH546 sm_18 (by first | with_reducible assumption | omega) (gz_any _) (fun H554 eH554 hIH554 => ?_)
                have hJH554 : JN H554 := JN_sA (by decide) eH554 hJH546
                have e555 : k0_2 = fZ H554 0 2 := by rw [eH554, fZ_sA]; exact e547
                have m556 : kpM H H554 := kpM_A m548 eH554 (by first | with_reducible assumption | omega)
                refine g_aload_n rfl ?_
                refine g_sipush (by decide) (fun v557 kv557 => ?_)
                refine g_invvv hIH554 sm_0 rfl rfl rfl rfl (s_198 v557 H554 hIH554 hJH554) (fun H558 r559 => ?_)
                obtain ⟨hIH558, hJH558, w560, m561, m562, m563, p564⟩ := r559
                have e565 : k0_2 = fZ H558 0 2 := e555.trans w560.symm
                have m566 : kpM H H558 := kpM_t m556 m563
                refine g_iload_n rfl ?_
                refine g_iconst (by decide) (fun v567 kv567 => ?_)
                refine g_if2_ne (fun c568 => ?_) (fun c568 => ?_)
                · exfalso; omega
                · refine g_aload_n rfl ?_
                  refine g_invvi hIH558 sm_0 rfl rfl rfl rfl (s_224 H558 hIH558 (JM_n hJH558)) (fun v571 H569 r570 => ?_)
                  obtain rfl := r570
                  refine g_goto ?_
                  exact g_iret ⟨_, rfl, hIH558, (JM_n hJH558), (e565.symm.trans ek0_2), m566⟩
              · exfalso; omega
            · refine g_iload_n rfl ?_
              refine g_invti rfl rfl rfl (s_205 a3 H498 hIH498 hJH498) (fun v574 H572 r573 => ?_)
              obtain ⟨rfl, bv574, p575⟩ := r573
              refine g_if_eq (fun c576 => ?_) (fun c576 => ?_)
              · refine g_iconst (by decide) (fun v577 kv577 => ?_)
                refine g_nop ?_
                refine g_istore (l' := [(0, .ref 0), (1, .int a1), (2, .int a2), (3, .int a3), (4, .int v577)]) rfl rfl ?_
                refine g_iload rfl ?_
                refine g_if_ne (fun c578 => ?_) (fun c578 => ?_)
                · exfalso; omega
                · refine g_sipush (by decide) (fun v579 kv579 => ?_)
                  exact g_iret ⟨_, rfl, hIH498, hJH498, (e499.symm.trans ek0_2), m500⟩
              · refine g_nop ?_
                refine g_iconst (by decide) (fun v580 kv580 => ?_)
                refine g_goto ?_
                refine g_istore (l' := [(0, .ref 0), (1, .int a1), (2, .int a2), (3, .int a3), (4, .int v580)]) rfl rfl ?_
                refine g_iload rfl ?_
                refine g_if_ne (fun c581 => ?_) (fun c581 => ?_)
                · refine g_aload_n rfl ?_
                  refine g_invvv hIH498 sm_0 rfl rfl rfl rfl (s_182 H498 hIH498 hJH498) (fun H582 r583 => ?_)
                  obtain ⟨hIH582, hJH582, m584, m585, m586, p587⟩ := r583
                  have e588 : k0_2 = fZ H582 0 2 := e499.trans (m584 0 2).symm
                  have m589 : kpM H H582 := kpM_t m500 m586
                  refine g_aload_n rfl ?_
                  refine g_gfr hIH582 sm_0 rfl ?_
                  refine g_iload_n rfl ?_
                  refine g_aload_n rfl ?_
                  refine g_iload_n rfl ?_
                  refine g_iconst (by decide) (fun v590 kv590 => ?_)
                  refine g_invvi hIH582 sm_0 rfl rfl rfl rfl (s_181 a2 (by first | with_reducible assumption | omega) v590 (by first | with_reducible assumption | omega) H582 hIH582 hJH582) (fun v593 H591 r592 => ?_)
                  obtain ⟨rfl, p594⟩ := r592
                  have tv593 : v593 = aZ H582 2 (69 + 5 * a2.toInt + 0).toNat := by rw [p594, kv590]
                  refine g_iastore hIH582 sm_18 (by first | with_reducible assumption | omega) (gz_any _) (fun H595 eH595 hIH595 => ?_)
                  have hJH595 : JN H595 := JN_sA (by decide) eH595 hJH582
                  have e596 : k0_2 = fZ H595 0 2 := by rw [eH595, fZ_sA]; exact e588
                  have m597 : kpM H H595 := kpM_A m589 eH595 (by first | with_reducible assumption | omega)
                  refine g_aload_n rfl ?_
                  refine g_gfr hIH595 sm_0 rfl ?_
                  refine g_iload_n rfl ?_
                  refine g_aload_n rfl ?_
                  refine g_iload_n rfl ?_
                  refine g_iconst (by decide) (fun v598 kv598 => ?_)
                  refine g_invvi hIH595 sm_0 rfl rfl rfl rfl (s_181 a1 (by first | with_reducible assumption | omega) v598 (by first | with_reducible assumption | omega) H595 hIH595 hJH595) (fun v601 H599 r600 => ?_)
                  obtain ⟨rfl, p602⟩ := r600
                  have tv601 : v601 = aZ H595 2 (69 + 5 * a1.toInt + 0).toNat := by rw [p602, kv598]
                  refine g_iastore hIH595 sm_18 (by first | with_reducible assumption | omega) (gz_any _) (fun H603 eH603 hIH603 => ?_)
                  have hJH603 : JN H603 := JN_sA (by decide) eH603 hJH595
                  have e604 : k0_2 = fZ H603 0 2 := by rw [eH603, fZ_sA]; exact e596
                  have m605 : kpM H H603 := kpM_A m597 eH603 (by first | with_reducible assumption | omega)
                  refine g_aload_n rfl ?_
                  refine g_sipush (by decide) (fun v606 kv606 => ?_)
                  refine g_invvv hIH603 sm_0 rfl rfl rfl rfl (s_198 v606 H603 hIH603 hJH603) (fun H607 r608 => ?_)
                  obtain ⟨hIH607, hJH607, w609, m610, m611, m612, p613⟩ := r608
                  have e614 : k0_2 = fZ H607 0 2 := e604.trans w609.symm
                  have m615 : kpM H H607 := kpM_t m605 m612
                  refine g_iload_n rfl ?_
                  refine g_iconst (by decide) (fun v616 kv616 => ?_)
                  refine g_if2_ne (fun c617 => ?_) (fun c617 => ?_)
                  · refine g_aload_n rfl ?_
                    refine g_iload_n rfl ?_
                    refine g_invvi hIH607 sm_0 rfl rfl rfl rfl (s_201 a3 (by first | with_reducible assumption | omega) H607 hIH607 hJH607) (fun v620 H618 r619 => ?_)
                    obtain ⟨rfl, bv620⟩ := r619
                    refine g_nop ?_
                    exact g_iret ⟨_, rfl, hIH607, (JM_n hJH607), (e614.symm.trans ek0_2), m615⟩
                  · exfalso; omega
                · exfalso; omega
set_option maxRecDepth 4000 in
set_option maxHeartbeats 4000000 in
/-- M.manyAt -/
theorem s_248 (a1 : Int32) (H : mzH) (hI : gI SM H) (hJ : JM H) : gCall 248 [.ref 0, .int a1] H (gRi (fun v H' => H = H')) := by
  refine gG_call [(0, .ref 0), (1, .int a1)] ⟨rfl, rfl, trivial⟩ ?_
  show gG 4 zB_248 (mzBlk zB_248 0) [(0, .ref 0), (1, .int a1)] [] H 0 0 _
  refine g_iconst (by decide) (fun v459 kv459 => ?_)
  refine g_istore_n (l' := [(0, .ref 0), (1, .int a1), (2, .int v459)]) rfl rfl ?_
  refine g_iconst (by decide) (fun v460 kv460 => ?_)
  refine g_istore_n (l' := [(0, .ref 0), (1, .int a1), (2, .int v459), (3, .int v460)]) rfl rfl ?_
  refine g_nop ?_
  have L463 : ∀ (N : Nat) (v461 : Int32) (v462 : Int32), (0 ≤ v462.toInt ∧ v462.toInt ≤ 40) → (40 - v462.toInt).toNat < N → gG 4 zB_248 (mzBlk zB_248 1) [(0, .ref 0), (1, .int a1), (2, .int v461), (3, .int v462)] [] H 0 0 (gRi (fun v H' => H = H')) := by
    intro N
    induction N with
    | zero => intro v461 v462 bv462 hmL463; exact absurd hmL463 (Nat.not_lt_zero _)
    | succ N ihL463 =>
      intro v461 v462 bv462 hmL463
      refine g_iload_n rfl ?_
      refine g_bipush (by decide) (fun v464 kv464 => ?_)
      refine g_if2_ge (fun c465 => ?_) (fun c465 => ?_)
      · refine g_iload_n rfl ?_
        exact g_iret ⟨_, rfl, rfl⟩
      · refine g_iload_n rfl ?_
        refine g_aload_n rfl ?_
        refine g_iload_n rfl ?_
        refine g_invvi hI sm_0 rfl rfl rfl rfl (s_201 v462 (by first | with_reducible assumption | omega) H hI hJ) (fun v468 H466 r467 => ?_)
        obtain ⟨rfl, bv468⟩ := r467
        refine g_iload_n rfl ?_
        refine g_if2_ne (fun c469 => ?_) (fun c469 => ?_)
        · refine g_iconst (by decide) (fun v470 kv470 => ?_)
          refine g_nop ?_
          refine g_iadd (by have := gz_any v461; omega) (fun v471 ev471 => ?_)
          refine g_istore_n (l' := [(0, .ref 0), (1, .int a1), (2, .int v471), (3, .int v462)]) rfl rfl ?_
          refine g_iinc (l' := (fun v472 => [(0, .ref 0), (1, .int a1), (2, .int v471), (3, .int v472)])) rfl rfl (by decide) (by first | with_reducible assumption | omega) (fun _ => rfl) (fun v472 ev472 => ?_)
          refine g_goto ?_
          exact ihL463 v471 v472 (by first | with_reducible assumption | omega) (by first | with_reducible assumption | omega)
        · refine g_iconst (by decide) (fun v473 kv473 => ?_)
          refine g_goto ?_
          refine g_iadd' (fun v474 ov474 => ?_)
          refine g_istore_n (l' := [(0, .ref 0), (1, .int a1), (2, .int v474), (3, .int v462)]) rfl rfl ?_
          refine g_iinc (l' := (fun v475 => [(0, .ref 0), (1, .int a1), (2, .int v474), (3, .int v475)])) rfl rfl (by decide) (by first | with_reducible assumption | omega) (fun _ => rfl) (fun v475 ev475 => ?_)
          refine g_goto ?_
          exact ihL463 v474 v475 (by first | with_reducible assumption | omega) (by first | with_reducible assumption | omega)
  exact L463 _ v459 v460 (by first | with_reducible assumption | omega) (Nat.lt_succ_self _)
set_option maxRecDepth 4000 in
set_option maxHeartbeats 4000000 in
/-- M.busy -/
theorem s_249 (a1 : Int32) (a2 : Int32) (H : mzH) (hI : gI SM H) (hJ : JN H) : gCall 249 [.ref 0, .int a1, .int a2] H (gRi (fun v H' => gI SM H' ∧ JN H' ∧ fZ H' 0 2 = fZ H 0 2 ∧ kpM H H')) := by
  obtain ⟨k0_2, ek0_2⟩ : ∃ z, z = fZ H 0 2 := ⟨_, rfl⟩
  have ik0_2 : k0_2.toInt = (fZ H 0 2).toInt := by rw [← ek0_2]
  have bk0_2 : 0 ≤ k0_2.toInt ∧ k0_2.toInt ≤ 900 := by rw [ek0_2]; exact fZ_of hI sm_0 rfl
  have mkfr : kpM H H := kpM_r
  refine gG_call [(0, .ref 0), (1, .int a1), (2, .int a2)] ⟨rfl, rfl, rfl, trivial⟩ ?_
  show gG 7 zB_249 (mzBlk zB_249 0) [(0, .ref 0), (1, .int a1), (2, .int a2)] [] H 0 0 _
  refine g_aload_n rfl ?_
  refine g_iconst (by decide) (fun v763 kv763 => ?_)
  refine g_pfi hI sm_0 rfl (gz_any _) (fun H764 eH764 hIH764 => ?_)
  have hJH764 : JN H764 := JN_sF eH764 hJ
  have e765 : k0_2 = fZ H764 0 2 := by rw [eH764, fZ_sF_ne (by decide)]; exact ek0_2
  have m766 : kpM H H764 := kpM_F mkfr eH764 (by first | with_reducible assumption | omega)
  refine g_aload_n rfl ?_
  refine g_iload_n rfl ?_
  refine g_invvi hIH764 sm_0 rfl rfl rfl rfl (s_210 a1 H764 hIH764 hJH764) (fun v769 H767 r768 => ?_)
  obtain ⟨rfl, bv769, p770⟩ := r768
  refine g_if_ne (fun c771 => ?_) (fun c771 => ?_)
  · refine g_iload_n rfl ?_
    refine g_if_lt (fun c772 => ?_) (fun c772 => ?_)
    · refine g_iconst (by decide) (fun v773 kv773 => ?_)
      exact g_iret ⟨_, rfl, hIH764, hJH764, (e765.symm.trans ek0_2), m766⟩
    · refine g_iload_n rfl ?_
      refine g_iconst (by decide) (fun v774 kv774 => ?_)
      refine g_if2_le (fun c775 => ?_) (fun c775 => ?_)
      · refine g_aload_n rfl ?_
        refine g_invvv hIH764 sm_0 rfl rfl rfl rfl (s_182 H764 hIH764 hJH764) (fun H776 r777 => ?_)
        obtain ⟨hIH776, hJH776, m778, m779, m780, p781⟩ := r777
        have e782 : k0_2 = fZ H776 0 2 := e765.trans (m778 0 2).symm
        have m783 : kpM H H776 := kpM_t m766 m780
        refine g_aload_n rfl ?_
        refine g_invvv hIH776 sm_0 rfl rfl rfl rfl (s_184 H776 hIH776 hJH776) (fun H784 r785 => ?_)
        obtain ⟨hIH784, hJH784, w786, m787, m788, m789, p790⟩ := r785
        have e791 : k0_2 = fZ H784 0 2 := e782.trans w786.symm
        have m792 : kpM H H784 := kpM_t m783 m789
        refine g_iconst (by decide) (fun v793 kv793 => ?_)
        refine g_istore_n (l' := [(0, .ref 0), (1, .int a1), (2, .int a2), (3, .int v793)]) rfl rfl ?_
        refine g_bipush (by decide) (fun v794 kv794 => ?_)
        refine g_istore (l' := [(0, .ref 0), (1, .int a1), (2, .int a2), (3, .int v793), (4, .int v794)]) rfl rfl ?_
        refine g_iconst (by decide) (fun v795 kv795 => ?_)
        refine g_istore (l' := [(0, .ref 0), (1, .int a1), (2, .int a2), (3, .int v793), (4, .int v794), (5, .int v795)]) rfl rfl ?_
        refine g_nop ?_
        have L802 : ∀ (N : Nat) (v796 : Int32) (v797 : Int32) (v798 : Int32) (H799 : mzH), gI SM H799 → JM H799 → k0_2 = fZ H799 0 2 → kpM H H799 → (-1 ≤ v796.toInt ∧ v796.toInt ≤ 2147483647) → (0 ≤ v798.toInt ∧ v798.toInt ≤ 60) → (60 - v798.toInt).toNat < N → gG 7 zB_249 (mzBlk zB_249 4) [(0, .ref 0), (1, .int a1), (2, .int a2), (3, .int v796), (4, .int v797), (5, .int v798)] [] H799 0 0 (gRi (fun v H' => gI SM H' ∧ JN H' ∧ fZ H' 0 2 = fZ H 0 2 ∧ kpM H H')) := by
          intro N
          induction N with
          | zero => intro v796 v797 v798 H799 hIH799 hJH799 e800 m801 bv796 bv798 hmL802; exact absurd hmL802 (Nat.not_lt_zero _)
          | succ N ihL802 =>
            intro v796 v797 v798 H799 hIH799 hJH799 e800 m801 bv796 bv798 hmL802
            refine g_iload rfl ?_
            refine g_aload_n rfl ?_
            refine g_gfi hIH799 sm_0 rfl (fun v803 ev803 lv803 uv803 => ?_)
            refine g_if2_ge (fun c804 => ?_) (fun c804 => ?_)
            · refine g_iload_n rfl ?_
              refine g_iconst (by decide) (fun v805 kv805 => ?_)
              refine g_if2_ne (fun c806 => ?_) (fun c806 => ?_)
              · refine g_iload_n rfl ?_
                refine g_iconst (by decide) (fun v807 kv807 => ?_)
                refine g_if2_ne (fun c808 => ?_) (fun c808 => ?_)
                · refine g_iload_n rfl ?_
                  refine g_nop ?_
                  exact g_iret ⟨_, rfl, hIH799, (JM_n hJH799), (e800.symm.trans ek0_2), m801⟩
                · refine g_iconst (by decide) (fun v809 kv809 => ?_)
                  refine g_goto ?_
                  exact g_iret ⟨_, rfl, hIH799, (JM_n hJH799), (e800.symm.trans ek0_2), m801⟩
              · refine g_iload rfl ?_
                refine g_goto ?_
                exact g_iret ⟨_, rfl, hIH799, (JM_n hJH799), (e800.symm.trans ek0_2), m801⟩
            · refine g_aload_n rfl ?_
              refine g_aload_n rfl ?_
              refine g_gfr hIH799 sm_0 rfl ?_
              refine g_iload rfl ?_
              refine g_iaload hIH799 sm_19 rfl (by first | with_reducible assumption | omega) (fun v810 ev810 lv810 uv810 => ?_)
              refine g_invvv hIH799 sm_0 rfl rfl rfl rfl (s_192 v810 (by first | with_reducible assumption | omega) H799 hIH799 hJH799) (fun H811 r812 => ?_)
              obtain ⟨hIH811, hJH811, m813, m814, m815, m816, m817⟩ := r812
              have e818 : k0_2 = fZ H811 0 2 := e800.trans (m813 0 2).symm
              have m819 : kpM H H811 := kpM_t m801 m817
              refine g_aload_n rfl ?_
              refine g_iload_n rfl ?_
              refine g_invvi hIH811 sm_0 rfl rfl rfl rfl (s_248 a1 H811 hIH811 hJH811) (fun v822 H820 r821 => ?_)
              obtain rfl := r821
              refine g_istore (l' := [(0, .ref 0), (1, .int a1), (2, .int a2), (3, .int v796), (4, .int v797), (5, .int v798), (6, .int v822)]) rfl rfl ?_
              refine g_iload rfl ?_
              refine g_iload_n rfl ?_
              refine g_if2_gt (fun c823 => ?_) (fun c823 => ?_)
              · refine g_iload rfl ?_
                refine g_istore_n (l' := [(0, .ref 0), (1, .int a1), (2, .int a2), (3, .int v822), (4, .int v797), (5, .int v798), (6, .int v822)]) rfl rfl ?_
                refine g_aload_n rfl ?_
                refine g_gfr hIH811 sm_0 rfl ?_
                refine g_aload_n rfl ?_
                refine g_gfr hIH811 sm_0 rfl ?_
                refine g_iload rfl ?_
                refine g_iaload hIH811 sm_19 rfl (by first | with_reducible assumption | omega) (fun v824 ev824 lv824 uv824 => ?_)
                refine g_iaload hIH811 sm_18 rfl (by first | with_reducible assumption | omega) (fun v825 ev825 lv825 uv825 => ?_)
                refine g_istore (l' := [(0, .ref 0), (1, .int a1), (2, .int a2), (3, .int v822), (4, .int v825), (5, .int v798), (6, .int v822)]) rfl rfl ?_
                refine g_nop ?_
                refine g_iinc (l' := (fun v826 => [(0, .ref 0), (1, .int a1), (2, .int a2), (3, .int v822), (4, .int v825), (5, .int v826), (6, .int v822)])) rfl rfl (by decide) (by first | with_reducible assumption | omega) (fun _ => rfl) (fun v826 ev826 => ?_)
                refine g_goto ?_
                refine gG_pick [0, 1, 2, 3, 4, 5] (l' := [(0, .ref 0), (1, .int a1), (2, .int a2), (3, .int v822), (4, .int v825), (5, .int v826)]) rfl ?_
                exact ihL802 v822 v825 v826 H811 hIH811 hJH811 e818 m819 (by have := gz_any v822; omega) (by first | with_reducible assumption | omega) (by first | with_reducible assumption | omega)
              · refine g_goto ?_
                refine g_iinc (l' := (fun v827 => [(0, .ref 0), (1, .int a1), (2, .int a2), (3, .int v796), (4, .int v797), (5, .int v827), (6, .int v822)])) rfl rfl (by decide) (by first | with_reducible assumption | omega) (fun _ => rfl) (fun v827 ev827 => ?_)
                refine g_goto ?_
                refine gG_pick [0, 1, 2, 3, 4, 5] (l' := [(0, .ref 0), (1, .int a1), (2, .int a2), (3, .int v796), (4, .int v797), (5, .int v827)]) rfl ?_
                exact ihL802 v796 v797 v827 H811 hIH811 hJH811 e818 m819 (by have := gz_any v796; omega) (by first | with_reducible assumption | omega) (by first | with_reducible assumption | omega)
        exact L802 _ v793 v794 v795 H784 hIH784 hJH784 e791 m792 (by have := gz_any v793; omega) (by first | with_reducible assumption | omega) (Nat.lt_succ_self _)
      · refine g_nop ?_
        refine g_iconst (by decide) (fun v828 kv828 => ?_)
        exact g_iret ⟨_, rfl, hIH764, hJH764, (e765.symm.trans ek0_2), m766⟩
  · refine g_iload_n rfl ?_
    refine g_bipush (by decide) (fun v829 kv829 => ?_)
    refine g_if2_eq (fun c830 => ?_) (fun c830 => ?_)
    · refine g_iload_n rfl ?_
      refine g_if_lt (fun c831 => ?_) (fun c831 => ?_)
      · refine g_iconst (by decide) (fun v832 kv832 => ?_)
        exact g_iret ⟨_, rfl, hIH764, hJH764, (e765.symm.trans ek0_2), m766⟩
      · refine g_iload_n rfl ?_
        refine g_iconst (by decide) (fun v833 kv833 => ?_)
        refine g_if2_le (fun c834 => ?_) (fun c834 => ?_)
        · refine g_aload_n rfl ?_
          refine g_invvv hIH764 sm_0 rfl rfl rfl rfl (s_182 H764 hIH764 hJH764) (fun H835 r836 => ?_)
          obtain ⟨hIH835, hJH835, m837, m838, m839, p840⟩ := r836
          have e841 : k0_2 = fZ H835 0 2 := e765.trans (m837 0 2).symm
          have m842 : kpM H H835 := kpM_t m766 m839
          refine g_aload_n rfl ?_
          refine g_invvv hIH835 sm_0 rfl rfl rfl rfl (s_184 H835 hIH835 hJH835) (fun H843 r844 => ?_)
          obtain ⟨hIH843, hJH843, w845, m846, m847, m848, p849⟩ := r844
          have e850 : k0_2 = fZ H843 0 2 := e841.trans w845.symm
          have m851 : kpM H H843 := kpM_t m842 m848
          refine g_iconst (by decide) (fun v852 kv852 => ?_)
          refine g_istore_n (l' := [(0, .ref 0), (1, .int a1), (2, .int a2), (3, .int v852)]) rfl rfl ?_
          refine g_bipush (by decide) (fun v853 kv853 => ?_)
          refine g_istore (l' := [(0, .ref 0), (1, .int a1), (2, .int a2), (3, .int v852), (4, .int v853)]) rfl rfl ?_
          refine g_iconst (by decide) (fun v854 kv854 => ?_)
          refine g_istore (l' := [(0, .ref 0), (1, .int a1), (2, .int a2), (3, .int v852), (4, .int v853), (5, .int v854)]) rfl rfl ?_
          refine g_nop ?_
          have L861 : ∀ (N : Nat) (v855 : Int32) (v856 : Int32) (v857 : Int32) (H858 : mzH), gI SM H858 → JM H858 → k0_2 = fZ H858 0 2 → kpM H H858 → (-1 ≤ v855.toInt ∧ v855.toInt ≤ 2147483647) → (0 ≤ v857.toInt ∧ v857.toInt ≤ 60) → (60 - v857.toInt).toNat < N → gG 7 zB_249 (mzBlk zB_249 4) [(0, .ref 0), (1, .int a1), (2, .int a2), (3, .int v855), (4, .int v856), (5, .int v857)] [] H858 0 0 (gRi (fun v H' => gI SM H' ∧ JN H' ∧ fZ H' 0 2 = fZ H 0 2 ∧ kpM H H')) := by
            intro N
            induction N with
            | zero => intro v855 v856 v857 H858 hIH858 hJH858 e859 m860 bv855 bv857 hmL861; exact absurd hmL861 (Nat.not_lt_zero _)
            | succ N ihL861 =>
              intro v855 v856 v857 H858 hIH858 hJH858 e859 m860 bv855 bv857 hmL861
              refine g_iload rfl ?_
              refine g_aload_n rfl ?_
              refine g_gfi hIH858 sm_0 rfl (fun v862 ev862 lv862 uv862 => ?_)
              refine g_if2_ge (fun c863 => ?_) (fun c863 => ?_)
              · refine g_iload_n rfl ?_
                refine g_iconst (by decide) (fun v864 kv864 => ?_)
                refine g_if2_ne (fun c865 => ?_) (fun c865 => ?_)
                · refine g_iload_n rfl ?_
                  refine g_iconst (by decide) (fun v866 kv866 => ?_)
                  refine g_if2_ne (fun c867 => ?_) (fun c867 => ?_)
                  · refine g_iload_n rfl ?_
                    refine g_nop ?_
                    exact g_iret ⟨_, rfl, hIH858, (JM_n hJH858), (e859.symm.trans ek0_2), m860⟩
                  · refine g_iconst (by decide) (fun v868 kv868 => ?_)
                    refine g_goto ?_
                    exact g_iret ⟨_, rfl, hIH858, (JM_n hJH858), (e859.symm.trans ek0_2), m860⟩
                · refine g_iload rfl ?_
                  refine g_goto ?_
                  exact g_iret ⟨_, rfl, hIH858, (JM_n hJH858), (e859.symm.trans ek0_2), m860⟩
              · refine g_aload_n rfl ?_
                refine g_aload_n rfl ?_
                refine g_gfr hIH858 sm_0 rfl ?_
                refine g_iload rfl ?_
                refine g_iaload hIH858 sm_19 rfl (by first | with_reducible assumption | omega) (fun v869 ev869 lv869 uv869 => ?_)
                refine g_invvv hIH858 sm_0 rfl rfl rfl rfl (s_192 v869 (by first | with_reducible assumption | omega) H858 hIH858 hJH858) (fun H870 r871 => ?_)
                obtain ⟨hIH870, hJH870, m872, m873, m874, m875, m876⟩ := r871
                have e877 : k0_2 = fZ H870 0 2 := e859.trans (m872 0 2).symm
                have m878 : kpM H H870 := kpM_t m860 m876
                refine g_aload_n rfl ?_
                refine g_iload_n rfl ?_
                refine g_invvi hIH870 sm_0 rfl rfl rfl rfl (s_248 a1 H870 hIH870 hJH870) (fun v881 H879 r880 => ?_)
                obtain rfl := r880
                refine g_istore (l' := [(0, .ref 0), (1, .int a1), (2, .int a2), (3, .int v855), (4, .int v856), (5, .int v857), (6, .int v881)]) rfl rfl ?_
                refine g_iload rfl ?_
                refine g_iload_n rfl ?_
                refine g_if2_gt (fun c882 => ?_) (fun c882 => ?_)
                · refine g_iload rfl ?_
                  refine g_istore_n (l' := [(0, .ref 0), (1, .int a1), (2, .int a2), (3, .int v881), (4, .int v856), (5, .int v857), (6, .int v881)]) rfl rfl ?_
                  refine g_aload_n rfl ?_
                  refine g_gfr hIH870 sm_0 rfl ?_
                  refine g_aload_n rfl ?_
                  refine g_gfr hIH870 sm_0 rfl ?_
                  refine g_iload rfl ?_
                  refine g_iaload hIH870 sm_19 rfl (by first | with_reducible assumption | omega) (fun v883 ev883 lv883 uv883 => ?_)
                  refine g_iaload hIH870 sm_18 rfl (by first | with_reducible assumption | omega) (fun v884 ev884 lv884 uv884 => ?_)
                  refine g_istore (l' := [(0, .ref 0), (1, .int a1), (2, .int a2), (3, .int v881), (4, .int v884), (5, .int v857), (6, .int v881)]) rfl rfl ?_
                  refine g_nop ?_
                  refine g_iinc (l' := (fun v885 => [(0, .ref 0), (1, .int a1), (2, .int a2), (3, .int v881), (4, .int v884), (5, .int v885), (6, .int v881)])) rfl rfl (by decide) (by first | with_reducible assumption | omega) (fun _ => rfl) (fun v885 ev885 => ?_)
                  refine g_goto ?_
                  refine gG_pick [0, 1, 2, 3, 4, 5] (l' := [(0, .ref 0), (1, .int a1), (2, .int a2), (3, .int v881), (4, .int v884), (5, .int v885)]) rfl ?_
                  exact ihL861 v881 v884 v885 H870 hIH870 hJH870 e877 m878 (by have := gz_any v881; omega) (by first | with_reducible assumption | omega) (by first | with_reducible assumption | omega)
                · refine g_goto ?_
                  refine g_iinc (l' := (fun v886 => [(0, .ref 0), (1, .int a1), (2, .int a2), (3, .int v855), (4, .int v856), (5, .int v886), (6, .int v881)])) rfl rfl (by decide) (by first | with_reducible assumption | omega) (fun _ => rfl) (fun v886 ev886 => ?_)
                  refine g_goto ?_
                  refine gG_pick [0, 1, 2, 3, 4, 5] (l' := [(0, .ref 0), (1, .int a1), (2, .int a2), (3, .int v855), (4, .int v856), (5, .int v886)]) rfl ?_
                  exact ihL861 v855 v856 v886 H870 hIH870 hJH870 e877 m878 (by have := gz_any v855; omega) (by first | with_reducible assumption | omega) (by first | with_reducible assumption | omega)
          exact L861 _ v852 v853 v854 H843 hIH843 hJH843 e850 m851 (by have := gz_any v852; omega) (by first | with_reducible assumption | omega) (Nat.lt_succ_self _)
        · refine g_nop ?_
          refine g_iconst (by decide) (fun v887 kv887 => ?_)
          exact g_iret ⟨_, rfl, hIH764, hJH764, (e765.symm.trans ek0_2), m766⟩
    · refine g_iload_n rfl ?_
      refine g_bipush (by decide) (fun v888 kv888 => ?_)
      refine g_if2_ne (fun c889 => ?_) (fun c889 => ?_)
      · refine g_iconst (by decide) (fun v890 kv890 => ?_)
        exact g_iret ⟨_, rfl, hIH764, hJH764, (e765.symm.trans ek0_2), m766⟩
      · refine g_nop ?_
        refine g_iload_n rfl ?_
        refine g_if_lt (fun c891 => ?_) (fun c891 => ?_)
        · refine g_iconst (by decide) (fun v892 kv892 => ?_)
          exact g_iret ⟨_, rfl, hIH764, hJH764, (e765.symm.trans ek0_2), m766⟩
        · refine g_iload_n rfl ?_
          refine g_iconst (by decide) (fun v893 kv893 => ?_)
          refine g_if2_le (fun c894 => ?_) (fun c894 => ?_)
          · refine g_aload_n rfl ?_
            refine g_invvv hIH764 sm_0 rfl rfl rfl rfl (s_182 H764 hIH764 hJH764) (fun H895 r896 => ?_)
            obtain ⟨hIH895, hJH895, m897, m898, m899, p900⟩ := r896
            have e901 : k0_2 = fZ H895 0 2 := e765.trans (m897 0 2).symm
            have m902 : kpM H H895 := kpM_t m766 m899
            refine g_aload_n rfl ?_
            refine g_invvv hIH895 sm_0 rfl rfl rfl rfl (s_184 H895 hIH895 hJH895) (fun H903 r904 => ?_)
            obtain ⟨hIH903, hJH903, w905, m906, m907, m908, p909⟩ := r904
            have e910 : k0_2 = fZ H903 0 2 := e901.trans w905.symm
            have m911 : kpM H H903 := kpM_t m902 m908
            refine g_iconst (by decide) (fun v912 kv912 => ?_)
            refine g_istore_n (l' := [(0, .ref 0), (1, .int a1), (2, .int a2), (3, .int v912)]) rfl rfl ?_
            refine g_bipush (by decide) (fun v913 kv913 => ?_)
            refine g_istore (l' := [(0, .ref 0), (1, .int a1), (2, .int a2), (3, .int v912), (4, .int v913)]) rfl rfl ?_
            refine g_iconst (by decide) (fun v914 kv914 => ?_)
            refine g_istore (l' := [(0, .ref 0), (1, .int a1), (2, .int a2), (3, .int v912), (4, .int v913), (5, .int v914)]) rfl rfl ?_
            refine g_nop ?_
            have L921 : ∀ (N : Nat) (v915 : Int32) (v916 : Int32) (v917 : Int32) (H918 : mzH), gI SM H918 → JM H918 → k0_2 = fZ H918 0 2 → kpM H H918 → (-1 ≤ v915.toInt ∧ v915.toInt ≤ 2147483647) → (0 ≤ v917.toInt ∧ v917.toInt ≤ 60) → (60 - v917.toInt).toNat < N → gG 7 zB_249 (mzBlk zB_249 4) [(0, .ref 0), (1, .int a1), (2, .int a2), (3, .int v915), (4, .int v916), (5, .int v917)] [] H918 0 0 (gRi (fun v H' => gI SM H' ∧ JN H' ∧ fZ H' 0 2 = fZ H 0 2 ∧ kpM H H')) := by
              intro N
              induction N with
              | zero => intro v915 v916 v917 H918 hIH918 hJH918 e919 m920 bv915 bv917 hmL921; exact absurd hmL921 (Nat.not_lt_zero _)
              | succ N ihL921 =>
                intro v915 v916 v917 H918 hIH918 hJH918 e919 m920 bv915 bv917 hmL921
                refine g_iload rfl ?_
                refine g_aload_n rfl ?_
                refine g_gfi hIH918 sm_0 rfl (fun v922 ev922 lv922 uv922 => ?_)
                refine g_if2_ge (fun c923 => ?_) (fun c923 => ?_)
                · refine g_iload_n rfl ?_
                  refine g_iconst (by decide) (fun v924 kv924 => ?_)
                  refine g_if2_ne (fun c925 => ?_) (fun c925 => ?_)
                  · refine g_iload_n rfl ?_
                    refine g_iconst (by decide) (fun v926 kv926 => ?_)
                    refine g_if2_ne (fun c927 => ?_) (fun c927 => ?_)
                    · refine g_iload_n rfl ?_
                      refine g_nop ?_
                      exact g_iret ⟨_, rfl, hIH918, (JM_n hJH918), (e919.symm.trans ek0_2), m920⟩
                    · refine g_iconst (by decide) (fun v928 kv928 => ?_)
                      refine g_goto ?_
                      exact g_iret ⟨_, rfl, hIH918, (JM_n hJH918), (e919.symm.trans ek0_2), m920⟩
                  · refine g_iload rfl ?_
                    refine g_goto ?_
                    exact g_iret ⟨_, rfl, hIH918, (JM_n hJH918), (e919.symm.trans ek0_2), m920⟩
                · refine g_aload_n rfl ?_
                  refine g_aload_n rfl ?_
                  refine g_gfr hIH918 sm_0 rfl ?_
                  refine g_iload rfl ?_
                  refine g_iaload hIH918 sm_19 rfl (by first | with_reducible assumption | omega) (fun v929 ev929 lv929 uv929 => ?_)
                  refine g_invvv hIH918 sm_0 rfl rfl rfl rfl (s_192 v929 (by first | with_reducible assumption | omega) H918 hIH918 hJH918) (fun H930 r931 => ?_)
                  obtain ⟨hIH930, hJH930, m932, m933, m934, m935, m936⟩ := r931
                  have e937 : k0_2 = fZ H930 0 2 := e919.trans (m932 0 2).symm
                  have m938 : kpM H H930 := kpM_t m920 m936
                  refine g_aload_n rfl ?_
                  refine g_iload_n rfl ?_
                  refine g_invvi hIH930 sm_0 rfl rfl rfl rfl (s_248 a1 H930 hIH930 hJH930) (fun v941 H939 r940 => ?_)
                  obtain rfl := r940
                  refine g_istore (l' := [(0, .ref 0), (1, .int a1), (2, .int a2), (3, .int v915), (4, .int v916), (5, .int v917), (6, .int v941)]) rfl rfl ?_
                  refine g_iload rfl ?_
                  refine g_iload_n rfl ?_
                  refine g_if2_gt (fun c942 => ?_) (fun c942 => ?_)
                  · refine g_iload rfl ?_
                    refine g_istore_n (l' := [(0, .ref 0), (1, .int a1), (2, .int a2), (3, .int v941), (4, .int v916), (5, .int v917), (6, .int v941)]) rfl rfl ?_
                    refine g_aload_n rfl ?_
                    refine g_gfr hIH930 sm_0 rfl ?_
                    refine g_aload_n rfl ?_
                    refine g_gfr hIH930 sm_0 rfl ?_
                    refine g_iload rfl ?_
                    refine g_iaload hIH930 sm_19 rfl (by first | with_reducible assumption | omega) (fun v943 ev943 lv943 uv943 => ?_)
                    refine g_iaload hIH930 sm_18 rfl (by first | with_reducible assumption | omega) (fun v944 ev944 lv944 uv944 => ?_)
                    refine g_istore (l' := [(0, .ref 0), (1, .int a1), (2, .int a2), (3, .int v941), (4, .int v944), (5, .int v917), (6, .int v941)]) rfl rfl ?_
                    refine g_nop ?_
                    refine g_iinc (l' := (fun v945 => [(0, .ref 0), (1, .int a1), (2, .int a2), (3, .int v941), (4, .int v944), (5, .int v945), (6, .int v941)])) rfl rfl (by decide) (by first | with_reducible assumption | omega) (fun _ => rfl) (fun v945 ev945 => ?_)
                    refine g_goto ?_
                    refine gG_pick [0, 1, 2, 3, 4, 5] (l' := [(0, .ref 0), (1, .int a1), (2, .int a2), (3, .int v941), (4, .int v944), (5, .int v945)]) rfl ?_
                    exact ihL921 v941 v944 v945 H930 hIH930 hJH930 e937 m938 (by have := gz_any v941; omega) (by first | with_reducible assumption | omega) (by first | with_reducible assumption | omega)
                  · refine g_goto ?_
                    refine g_iinc (l' := (fun v946 => [(0, .ref 0), (1, .int a1), (2, .int a2), (3, .int v915), (4, .int v916), (5, .int v946), (6, .int v941)])) rfl rfl (by decide) (by first | with_reducible assumption | omega) (fun _ => rfl) (fun v946 ev946 => ?_)
                    refine g_goto ?_
                    refine gG_pick [0, 1, 2, 3, 4, 5] (l' := [(0, .ref 0), (1, .int a1), (2, .int a2), (3, .int v915), (4, .int v916), (5, .int v946)]) rfl ?_
                    exact ihL921 v915 v916 v946 H930 hIH930 hJH930 e937 m938 (by have := gz_any v915; omega) (by first | with_reducible assumption | omega) (by first | with_reducible assumption | omega)
            exact L921 _ v912 v913 v914 H903 hIH903 hJH903 e910 m911 (by have := gz_any v912; omega) (by first | with_reducible assumption | omega) (Nat.lt_succ_self _)
          · refine g_nop ?_
            refine g_iconst (by decide) (fun v947 kv947 => ?_)
            exact g_iret ⟨_, rfl, hIH764, hJH764, (e765.symm.trans ek0_2), m766⟩
set_option maxRecDepth 4000 in
set_option maxHeartbeats 4000000 in
/-- M.travelled -/
theorem s_250 (a1 : Int32) (H : mzH) (hI : gI SM H) (hJ : JN H) : gCall 250 [.ref 0, .int a1] H (gRi (fun v H' => gI SM H' ∧ JN H' ∧ fZ H' 0 2 = fZ H 0 2 ∧ kpM H H')) := by
  obtain ⟨k0_2, ek0_2⟩ : ∃ z, z = fZ H 0 2 := ⟨_, rfl⟩
  have ik0_2 : k0_2.toInt = (fZ H 0 2).toInt := by rw [← ek0_2]
  have bk0_2 : 0 ≤ k0_2.toInt ∧ k0_2.toInt ≤ 900 := by rw [ek0_2]; exact fZ_of hI sm_0 rfl
  have mkfr : kpM H H := kpM_r
  refine gG_call [(0, .ref 0), (1, .int a1)] ⟨rfl, rfl, trivial⟩ ?_
  show gG 6 zB_250 (mzBlk zB_250 0) [(0, .ref 0), (1, .int a1)] [] H 0 0 _
  refine g_aload_n rfl ?_
  refine g_iconst (by decide) (fun v456 kv456 => ?_)
  refine g_pfi hI sm_0 rfl (gz_any _) (fun H457 eH457 hIH457 => ?_)
  have hJH457 : JN H457 := JN_sF eH457 hJ
  have e458 : k0_2 = fZ H457 0 2 := by rw [eH457, fZ_sF_ne (by decide)]; exact ek0_2
  have m459 : kpM H H457 := kpM_F mkfr eH457 (by first | with_reducible assumption | omega)
  refine g_iload_n rfl ?_
  refine g_invti rfl rfl rfl (s_205 a1 H457 hIH457 hJH457) (fun v462 H460 r461 => ?_)
  obtain ⟨rfl, bv462, p463⟩ := r461
  refine g_if_ne (fun c464 => ?_) (fun c464 => ?_)
  · refine g_aload_n rfl ?_
    refine g_iload_n rfl ?_
    refine g_invvv hIH457 sm_0 rfl rfl rfl rfl (s_214 a1 (by first | with_reducible assumption | omega) H457 hIH457 hJH457) (fun H465 r466 => ?_)
    obtain ⟨hIH465, hJH465, w467, m468⟩ := r466
    have e469 : k0_2 = fZ H465 0 2 := e458.trans w467.symm
    have m470 : kpM H H465 := kpM_t m459 m468
    refine g_iconst (by decide) (fun v471 kv471 => ?_)
    refine g_istore_n (l' := [(0, .ref 0), (1, .int a1), (2, .int v471)]) rfl rfl ?_
    refine g_iconst (by decide) (fun v472 kv472 => ?_)
    refine g_istore_n (l' := [(0, .ref 0), (1, .int a1), (2, .int v471), (3, .int v472)]) rfl rfl ?_
    refine g_iconst (by decide) (fun v473 kv473 => ?_)
    refine g_istore (l' := [(0, .ref 0), (1, .int a1), (2, .int v471), (3, .int v472), (4, .int v473)]) rfl rfl ?_
    refine g_nop ?_
    have L477 : ∀ (N : Nat) (v474 : Int32) (v475 : Int32) (v476 : Int32), (-1 ≤ v475.toInt ∧ v475.toInt ≤ 7) → (0 ≤ v476.toInt ∧ v476.toInt ≤ 60) → (60 - v476.toInt).toNat < N → gG 6 zB_250 (mzBlk zB_250 2) [(0, .ref 0), (1, .int a1), (2, .int v474), (3, .int v475), (4, .int v476)] [] H465 0 0 (gRi (fun v H' => gI SM H' ∧ JN H' ∧ fZ H' 0 2 = fZ H 0 2 ∧ kpM H H')) := by
      intro N
      induction N with
      | zero => intro v474 v475 v476 bv475 bv476 hmL477; exact absurd hmL477 (Nat.not_lt_zero _)
      | succ N ihL477 =>
        intro v474 v475 v476 bv475 bv476 hmL477
        refine g_iload rfl ?_
        refine g_aload_n rfl ?_
        refine g_gfi hIH465 sm_0 rfl (fun v478 ev478 lv478 uv478 => ?_)
        refine g_if2_ge (fun c479 => ?_) (fun c479 => ?_)
        · refine g_aload_n rfl ?_
          refine g_gfi hIH465 sm_0 rfl (fun v480 ev480 lv480 uv480 => ?_)
          refine g_if_ne (fun c481 => ?_) (fun c481 => ?_)
          · refine g_iload_n rfl ?_
            refine g_nop ?_
            exact g_iret ⟨_, rfl, hIH465, (JM_n hJH465), (e469.symm.trans ek0_2), m470⟩
          · refine g_bipush (by decide) (fun v482 kv482 => ?_)
            refine g_goto ?_
            exact g_iret ⟨_, rfl, hIH465, (JM_n hJH465), (e469.symm.trans ek0_2), m470⟩
        · refine g_aload_n rfl ?_
          refine g_gfr hIH465 sm_0 rfl ?_
          refine g_iload rfl ?_
          refine g_iaload hIH465 sm_22 rfl (by first | with_reducible assumption | omega) (fun v483 ev483 lv483 uv483 => ?_)
          refine g_istore (l' := [(0, .ref 0), (1, .int a1), (2, .int v474), (3, .int v475), (4, .int v476), (5, .int v483)]) rfl rfl ?_
          refine g_iload rfl ?_
          refine g_if_ge (fun c484 => ?_) (fun c484 => ?_)
          · refine g_iload_n rfl ?_
            refine g_iconst (by decide) (fun v485 kv485 => ?_)
            refine g_if2_eq (fun c486 => ?_) (fun c486 => ?_)
            · refine g_iload rfl ?_
              refine g_istore_n (l' := [(0, .ref 0), (1, .int a1), (2, .int v474), (3, .int v483), (4, .int v476), (5, .int v483)]) rfl rfl ?_
              refine g_nop ?_
              refine g_iinc (l' := (fun v487 => [(0, .ref 0), (1, .int a1), (2, .int v474), (3, .int v483), (4, .int v487), (5, .int v483)])) rfl rfl (by decide) (by first | with_reducible assumption | omega) (fun _ => rfl) (fun v487 ev487 => ?_)
              refine g_goto ?_
              refine gG_pick [0, 1, 2, 3, 4] (l' := [(0, .ref 0), (1, .int a1), (2, .int v474), (3, .int v483), (4, .int v487)]) rfl ?_
              exact ihL477 v474 v483 v487 (by first | with_reducible assumption | omega) (by first | with_reducible assumption | omega) (by first | with_reducible assumption | omega)
            · refine g_aload_n rfl ?_
              refine g_gfr hIH465 sm_0 rfl ?_
              refine g_bipush (by decide) (fun v488 kv488 => ?_)
              refine g_iload_n rfl ?_
              refine g_imulk' (n := 8) kv488 (by first | with_reducible assumption | omega) (fun v489 ev489 => ?_)
              refine g_iload rfl ?_
              refine g_iadd (by first | with_reducible assumption | omega) (fun v490 ev490 => ?_)
              refine g_iaload hIH465 sm_6 rfl (by first | with_reducible assumption | omega) (fun v491 ev491 lv491 uv491 => ?_)
              refine g_ldc (by decide) (fun v492 kv492 => ?_)
              refine g_if2_ge (fun c493 => ?_) (fun c493 => ?_)
              · refine g_iload rfl ?_
                refine g_istore_n (l' := [(0, .ref 0), (1, .int a1), (2, .int v474), (3, .int v483), (4, .int v476), (5, .int v483)]) rfl rfl ?_
                refine g_nop ?_
                refine g_iinc (l' := (fun v494 => [(0, .ref 0), (1, .int a1), (2, .int v474), (3, .int v483), (4, .int v494), (5, .int v483)])) rfl rfl (by decide) (by first | with_reducible assumption | omega) (fun _ => rfl) (fun v494 ev494 => ?_)
                refine g_goto ?_
                refine gG_pick [0, 1, 2, 3, 4] (l' := [(0, .ref 0), (1, .int a1), (2, .int v474), (3, .int v483), (4, .int v494)]) rfl ?_
                exact ihL477 v474 v483 v494 (by first | with_reducible assumption | omega) (by first | with_reducible assumption | omega) (by first | with_reducible assumption | omega)
              · refine g_iload_n rfl ?_
                refine g_aload_n rfl ?_
                refine g_gfr hIH465 sm_0 rfl ?_
                refine g_bipush (by decide) (fun v495 kv495 => ?_)
                refine g_iload_n rfl ?_
                refine g_imulk' (n := 8) kv495 (by first | with_reducible assumption | omega) (fun v496 ev496 => ?_)
                refine g_iload rfl ?_
                refine g_iadd (by first | with_reducible assumption | omega) (fun v497 ev497 => ?_)
                refine g_iaload hIH465 sm_6 rfl (by first | with_reducible assumption | omega) (fun v498 ev498 lv498 uv498 => ?_)
                refine g_iadd' (fun v499 ov499 => ?_)
                refine g_istore_n (l' := [(0, .ref 0), (1, .int a1), (2, .int v499), (3, .int v475), (4, .int v476), (5, .int v483)]) rfl rfl ?_
                refine g_nop ?_
                refine g_iload rfl ?_
                refine g_istore_n (l' := [(0, .ref 0), (1, .int a1), (2, .int v499), (3, .int v483), (4, .int v476), (5, .int v483)]) rfl rfl ?_
                refine g_nop ?_
                refine g_iinc (l' := (fun v500 => [(0, .ref 0), (1, .int a1), (2, .int v499), (3, .int v483), (4, .int v500), (5, .int v483)])) rfl rfl (by decide) (by first | with_reducible assumption | omega) (fun _ => rfl) (fun v500 ev500 => ?_)
                refine g_goto ?_
                refine gG_pick [0, 1, 2, 3, 4] (l' := [(0, .ref 0), (1, .int a1), (2, .int v499), (3, .int v483), (4, .int v500)]) rfl ?_
                exact ihL477 v499 v483 v500 (by first | with_reducible assumption | omega) (by first | with_reducible assumption | omega) (by first | with_reducible assumption | omega)
          · refine g_goto ?_
            refine g_iinc (l' := (fun v501 => [(0, .ref 0), (1, .int a1), (2, .int v474), (3, .int v475), (4, .int v501), (5, .int v483)])) rfl rfl (by decide) (by first | with_reducible assumption | omega) (fun _ => rfl) (fun v501 ev501 => ?_)
            refine g_goto ?_
            refine gG_pick [0, 1, 2, 3, 4] (l' := [(0, .ref 0), (1, .int a1), (2, .int v474), (3, .int v475), (4, .int v501)]) rfl ?_
            exact ihL477 v474 v475 v501 (by first | with_reducible assumption | omega) (by first | with_reducible assumption | omega) (by first | with_reducible assumption | omega)
    exact L477 _ v471 v472 v473 (by first | with_reducible assumption | omega) (by first | with_reducible assumption | omega) (Nat.lt_succ_self _)
  · refine g_iconst (by decide) (fun v502 kv502 => ?_)
    exact g_iret ⟨_, rfl, hIH457, hJH457, (e458.symm.trans ek0_2), m459⟩
set_option maxRecDepth 4000 in
set_option maxHeartbeats 4000000 in
/-- M.lates -/
theorem s_252 (H : mzH) (hI : gI SM H) (hJ : JN H) : gCall 252 [.ref 0] H (gRi (fun v H' => H = H')) := by
  refine gG_call [(0, .ref 0)] ⟨rfl, trivial⟩ ?_
  show gG 3 zB_252 (mzBlk zB_252 0) [(0, .ref 0)] [] H 0 0 _
  refine g_iconst (by decide) (fun v519 kv519 => ?_)
  refine g_istore_n (l' := [(0, .ref 0), (1, .int v519)]) rfl rfl ?_
  refine g_iconst (by decide) (fun v520 kv520 => ?_)
  refine g_istore_n (l' := [(0, .ref 0), (1, .int v519), (2, .int v520)]) rfl rfl ?_
  refine g_nop ?_
  have L523 : ∀ (N : Nat) (v521 : Int32) (v522 : Int32), (0 ≤ v522.toInt ∧ v522.toInt ≤ 60) → (60 - v522.toInt).toNat < N → gG 3 zB_252 (mzBlk zB_252 1) [(0, .ref 0), (1, .int v521), (2, .int v522)] [] H 0 0 (gRi (fun v H' => H = H')) := by
    intro N
    induction N with
    | zero => intro v521 v522 bv522 hmL523; exact absurd hmL523 (Nat.not_lt_zero _)
    | succ N ihL523 =>
      intro v521 v522 bv522 hmL523
      refine g_iload_n rfl ?_
      refine g_aload_n rfl ?_
      refine g_invvi hI sm_0 rfl rfl rfl rfl (s_180 H hI hJ) (fun v526 H524 r525 => ?_)
      obtain ⟨rfl, bv526, p527⟩ := r525
      refine g_if2_ge (fun c528 => ?_) (fun c528 => ?_)
      · refine g_iload_n rfl ?_
        exact g_iret ⟨_, rfl, rfl⟩
      · refine g_iload_n rfl ?_
        refine g_aload_n rfl ?_
        refine g_iload_n rfl ?_
        refine g_invvi hI sm_0 rfl rfl rfl rfl (s_204 v522 (by first | with_reducible assumption | omega) H hI hJ) (fun v531 H529 r530 => ?_)
        obtain ⟨rfl, bv531⟩ := r530
        refine g_if_eq (fun c532 => ?_) (fun c532 => ?_)
        · refine g_iconst (by decide) (fun v533 kv533 => ?_)
          refine g_nop ?_
          refine g_iadd (by have := gz_any v521; omega) (fun v534 ev534 => ?_)
          refine g_istore_n (l' := [(0, .ref 0), (1, .int v534), (2, .int v522)]) rfl rfl ?_
          refine g_iinc (l' := (fun v535 => [(0, .ref 0), (1, .int v534), (2, .int v535)])) rfl rfl (by decide) (by first | with_reducible assumption | omega) (fun _ => rfl) (fun v535 ev535 => ?_)
          refine g_goto ?_
          exact ihL523 v534 v535 (by first | with_reducible assumption | omega) (by first | with_reducible assumption | omega)
        · refine g_iconst (by decide) (fun v536 kv536 => ?_)
          refine g_goto ?_
          refine g_iadd' (fun v537 ov537 => ?_)
          refine g_istore_n (l' := [(0, .ref 0), (1, .int v537), (2, .int v522)]) rfl rfl ?_
          refine g_iinc (l' := (fun v538 => [(0, .ref 0), (1, .int v537), (2, .int v538)])) rfl rfl (by decide) (by first | with_reducible assumption | omega) (fun _ => rfl) (fun v538 ev538 => ?_)
          refine g_goto ?_
          exact ihL523 v537 v538 (by first | with_reducible assumption | omega) (by first | with_reducible assumption | omega)
  exact L523 _ v519 v520 (by first | with_reducible assumption | omega) (Nat.lt_succ_self _)
set_option maxRecDepth 4000 in
set_option maxHeartbeats 4000000 in
/-- M.count -/
theorem s_251 (a1 : Int32) (H : mzH) (hI : gI SM H) (hJ : JN H) : gCall 251 [.ref 0, .int a1] H (gRi (fun v H' => gI SM H' ∧ JN H' ∧ fZ H' 0 2 = fZ H 0 2 ∧ kpM H H')) := by
  obtain ⟨k0_2, ek0_2⟩ : ∃ z, z = fZ H 0 2 := ⟨_, rfl⟩
  have ik0_2 : k0_2.toInt = (fZ H 0 2).toInt := by rw [← ek0_2]
  have bk0_2 : 0 ≤ k0_2.toInt ∧ k0_2.toInt ≤ 900 := by rw [ek0_2]; exact fZ_of hI sm_0 rfl
  have mkfr : kpM H H := kpM_r
  refine gG_call [(0, .ref 0), (1, .int a1)] ⟨rfl, rfl, trivial⟩ ?_
  show gG 2 zB_251 (mzBlk zB_251 0) [(0, .ref 0), (1, .int a1)] [] H 0 0 _
  refine g_aload_n rfl ?_
  refine g_iconst (by decide) (fun v85 kv85 => ?_)
  refine g_pfi hI sm_0 rfl (gz_any _) (fun H86 eH86 hIH86 => ?_)
  have hJH86 : JN H86 := JN_sF eH86 hJ
  have e87 : k0_2 = fZ H86 0 2 := by rw [eH86, fZ_sF_ne (by decide)]; exact ek0_2
  have m88 : kpM H H86 := kpM_F mkfr eH86 (by first | with_reducible assumption | omega)
  refine g_iload_n rfl ?_
  refine g_sw (by decide) (fun c89 => ?_) ⟨fun c89 => ?_, fun c89 => ?_, fun c89 => ?_, fun c89 => ?_, fun c89 => ?_, fun c89 => ?_, fun c89 => ?_, trivial⟩
  · refine g_iconst (by decide) (fun v90 kv90 => ?_)
    exact g_iret ⟨_, rfl, hIH86, hJH86, (e87.symm.trans ek0_2), m88⟩
  · refine g_aload_n rfl ?_
    refine g_gfr hIH86 sm_0 rfl ?_
    refine g_iconst (by decide) (fun v91 kv91 => ?_)
    refine g_iaload hIH86 sm_2 rfl (by first | with_reducible assumption | omega) (fun v92 ev92 lv92 uv92 => ?_)
    have qv92 := JN_n20 hJH86 (v := v92) (by rw [ev92, show v91.toInt.toNat = 0 from by omega])
    exact g_iret ⟨_, rfl, hIH86, hJH86, (e87.symm.trans ek0_2), m88⟩
  · refine g_aload_n rfl ?_
    refine g_gfr hIH86 sm_0 rfl ?_
    refine g_iconst (by decide) (fun v93 kv93 => ?_)
    refine g_iaload hIH86 sm_2 rfl (by first | with_reducible assumption | omega) (fun v94 ev94 lv94 uv94 => ?_)
    exact g_iret ⟨_, rfl, hIH86, hJH86, (e87.symm.trans ek0_2), m88⟩
  · refine g_aload_n rfl ?_
    refine g_invvi hIH86 sm_0 rfl rfl rfl rfl (s_180 H86 hIH86 hJH86) (fun v97 H95 r96 => ?_)
    obtain ⟨rfl, bv97, p98⟩ := r96
    exact g_iret ⟨_, rfl, hIH86, hJH86, (e87.symm.trans ek0_2), m88⟩
  · refine g_aload_n rfl ?_
    refine g_invvi hIH86 sm_0 rfl rfl rfl rfl (s_252 H86 hIH86 hJH86) (fun v101 H99 r100 => ?_)
    obtain rfl := r100
    exact g_iret ⟨_, rfl, hIH86, hJH86, (e87.symm.trans ek0_2), m88⟩
  · refine g_aload_n rfl ?_
    refine g_gfr hIH86 sm_0 rfl ?_
    refine g_iconst (by decide) (fun v102 kv102 => ?_)
    refine g_iaload hIH86 sm_2 rfl (by first | with_reducible assumption | omega) (fun v103 ev103 lv103 uv103 => ?_)
    exact g_iret ⟨_, rfl, hIH86, hJH86, (e87.symm.trans ek0_2), m88⟩
  · refine g_aload_n rfl ?_
    refine g_gfr hIH86 sm_0 rfl ?_
    refine g_iconst (by decide) (fun v104 kv104 => ?_)
    refine g_iaload hIH86 sm_2 rfl (by first | with_reducible assumption | omega) (fun v105 ev105 lv105 uv105 => ?_)
    exact g_iret ⟨_, rfl, hIH86, hJH86, (e87.symm.trans ek0_2), m88⟩
  · refine g_aload_n rfl ?_
    refine g_gfk hIH86 sm_0 rfl e87 ?_
    exact g_iret ⟨_, rfl, hIH86, hJH86, (e87.symm.trans ek0_2), m88⟩
