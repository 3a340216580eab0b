set_option maxRecDepth 4000 in
set_option maxHeartbeats 4000000 in
/-- M.cause -/
theorem s_230 (a1 : Int32) (H : mzH) (hI : gI SM H) (hJ : JN H) : gCall 230 [.ref 0, .int a1] H (gRi (fun v H' => gI SM H' ∧ JN H' ∧ fZ H' 0 2 = fZ H 0 2 ∧ kpM H H')) := by
  obtain ⟨k0_2, ek0_2⟩ : ∃ z, z = fZ H 0 2 := ⟨_, rfl⟩
  have ik0_2 : k0_2.toInt = (fZ H 0 2).toInt := by rw [← ek0_2]
  have bk0_2 : 0 ≤ k0_2.toInt ∧ k0_2.toInt ≤ 900 := by rw [ek0_2]; exact fZ_of hI sm_0 rfl
  have mkfr : kpM H H := kpM_r
  refine gG_call [(0, .ref 0), (1, .int a1)] ⟨rfl, rfl, trivial⟩ ?_
  show gG 3 zB_230 (mzBlk zB_230 0) [(0, .ref 0), (1, .int a1)] [] H 0 0 _
  refine g_aload_n rfl ?_
  refine g_iconst (by decide) (fun v411 kv411 => ?_)
  refine g_pfi hI sm_0 rfl (gz_any _) (fun H412 eH412 hIH412 => ?_)
  have hJH412 : JN H412 := JN_sF eH412 hJ
  have e413 : k0_2 = fZ H412 0 2 := by rw [eH412, fZ_sF_ne (by decide)]; exact ek0_2
  have m414 : kpM H H412 := kpM_F mkfr eH412 (by omega)
  refine g_iload_n rfl ?_
  refine g_if_lt (fun c415 => ?_) (fun c415 => ?_)
  · refine g_iconst (by decide) (fun v416 kv416 => ?_)
    exact g_iret ⟨_, rfl, hIH412, hJH412, (e413.symm.trans ek0_2), m414⟩
  · refine g_iload_n rfl ?_
    refine g_aload_n rfl ?_
    refine g_invvi hIH412 sm_0 rfl rfl rfl rfl (s_180 H412 hIH412 hJH412) (fun v419 H417 r418 => ?_)
    obtain ⟨rfl, bv419, p420⟩ := r418
    refine g_if2_lt (fun c421 => ?_) (fun c421 => ?_)
    · refine g_aload_n rfl ?_
      refine g_iload_n rfl ?_
      refine g_invvi hIH412 sm_0 rfl rfl rfl rfl (s_229 a1 (by omega) H412 hIH412 hJH412) (fun v424 H422 r423 => ?_)
      obtain ⟨hIH422, hJH422, bv424, w425, m426⟩ := r423
      have e427 : k0_2 = fZ H422 0 2 := e413.trans w425.symm
      have m428 : kpM H H422 := kpM_t m414 m426
      refine g_if_ne (fun c429 => ?_) (fun c429 => ?_)
      · refine g_iconst (by decide) (fun v430 kv430 => ?_)
        refine g_istore_n (l' := [(0, .ref 0), (1, .int a1), (2, .int v430)]) rfl rfl ?_
        refine g_nop ?_
        have L435 : ∀ (N : Nat) (v431 : Int32) (H432 : mzH), gI SM H432 → JN H432 → k0_2 = fZ H432 0 2 → kpM H H432 → (0 ≤ v431.toInt ∧ v431.toInt ≤ 60) → (60 - v431.toInt).toNat < N → gG 3 zB_230 (mzBlk zB_230 4) [(0, .ref 0), (1, .int a1), (2, .int v431)] [] H432 0 0 (gRi (fun v H' => gI SM H' ∧ JN H' ∧ fZ H' 0 2 = fZ H 0 2 ∧ kpM H H')) := by
          intro N
          induction N with
          | zero => intro v431 H432 hIH432 hJH432 e433 m434 bv431 hmL435; exact absurd hmL435 (Nat.not_lt_zero _)
          | succ N ihL435 =>
            intro v431 H432 hIH432 hJH432 e433 m434 bv431 hmL435
            refine g_iload_n rfl ?_
            refine g_aload_n rfl ?_
            refine g_invvi hIH432 sm_0 rfl rfl rfl rfl (s_180 H432 hIH432 hJH432) (fun v438 H436 r437 => ?_)
            obtain ⟨rfl, bv438, p439⟩ := r437
            refine g_if2_ge (fun c440 => ?_) (fun c440 => ?_)
            · refine g_bipush (by decide) (fun v441 kv441 => ?_)
              exact g_iret ⟨_, rfl, hIH432, hJH432, (e433.symm.trans ek0_2), m434⟩
            · refine g_iload_n rfl ?_
              refine g_iload_n rfl ?_
              refine g_if2_ne (fun c442 => ?_) (fun c442 => ?_)
              · refine g_aload_n rfl ?_
                refine g_iload_n rfl ?_
                refine g_iconst (by decide) (fun v443 kv443 => ?_)
                refine g_invvv hIH432 sm_0 rfl rfl rfl rfl (s_222 v431 (by omega) v443 (by omega) H432 hIH432 hJH432) (fun H444 r445 => ?_)
                obtain ⟨hIH444, hJH444, w446, w447, w448, w449, w450, m451⟩ := r445
                have e452 : k0_2 = fZ H444 0 2 := e433.trans w446.symm
                have m453 : kpM H H444 := kpM_t m434 m451
                refine g_aload_n rfl ?_
                refine g_gfr hIH444 sm_0 rfl ?_
                refine g_iload_n rfl ?_
                refine g_iaload hIH444 sm_20 rfl (by omega) (fun v454 ev454 lv454 uv454 => ?_)
                refine g_if_ne (fun c455 => ?_) (fun c455 => ?_)
                · refine g_iinc (l' := (fun v456 => [(0, .ref 0), (1, .int a1), (2, .int v456)])) rfl rfl (by decide) (by omega) (fun _ => rfl) (fun v456 ev456 => ?_)
                  refine g_goto ?_
                  exact ihL435 v456 H444 hIH444 (JM_n hJH444) e452 m453 (by omega) (by omega)
                · refine g_iload_n rfl ?_
                  exact g_iret ⟨_, rfl, hIH444, (JM_n hJH444), (e452.symm.trans ek0_2), m453⟩
              · refine g_goto ?_
                refine g_iinc (l' := (fun v457 => [(0, .ref 0), (1, .int a1), (2, .int v457)])) rfl rfl (by decide) (by omega) (fun _ => rfl) (fun v457 ev457 => ?_)
                refine g_goto ?_
                exact ihL435 v457 H432 hIH432 hJH432 e433 m434 (by omega) (by omega)
        exact L435 _ v430 H422 hIH422 hJH422 e427 m428 (by omega) (Nat.lt_succ_self _)
      · refine g_bipush (by decide) (fun v458 kv458 => ?_)
        exact g_iret ⟨_, rfl, hIH422, hJH422, (e427.symm.trans ek0_2), m428⟩
    · refine g_nop ?_
      refine g_iconst (by decide) (fun v459 kv459 => ?_)
      exact g_iret ⟨_, rfl, hIH412, hJH412, (e413.symm.trans ek0_2), m414⟩
set_option maxRecDepth 4000 in
set_option maxHeartbeats 4000000 in
/-- M.needs -/
theorem s_231 (a1 : Int32) (a2 : Int32) (H : mzH) (hI : gI SM H) (hJ : JN H) : gCall 231 [.ref 0, .int a1, .int a2] H (gRi (fun v H' => gI SM H' ∧ JN H' ∧ fZ H' 0 2 = fZ H 0 2 ∧ kpM H H')) := by
  obtain ⟨k0_2, ek0_2⟩ : ∃ z, z = fZ H 0 2 := ⟨_, rfl⟩
  have ik0_2 : k0_2.toInt = (fZ H 0 2).toInt := by rw [← ek0_2]
  have bk0_2 : 0 ≤ k0_2.toInt ∧ k0_2.toInt ≤ 900 := by rw [ek0_2]; exact fZ_of hI sm_0 rfl
  have mkfr : kpM H H := kpM_r
  refine gG_call [(0, .ref 0), (1, .int a1), (2, .int a2)] ⟨rfl, rfl, rfl, trivial⟩ ?_
  show gG 5 zB_231 (mzBlk zB_231 0) [(0, .ref 0), (1, .int a1), (2, .int a2)] [] H 0 0 _
  refine g_aload_n rfl ?_
  refine g_iconst (by decide) (fun v489 kv489 => ?_)
  refine g_pfi hI sm_0 rfl (gz_any _) (fun H490 eH490 hIH490 => ?_)
  have hJH490 : JN H490 := JN_sF eH490 hJ
  have e491 : k0_2 = fZ H490 0 2 := by rw [eH490, fZ_sF_ne (by decide)]; exact ek0_2
  have m492 : kpM H H490 := kpM_F mkfr eH490 (by omega)
  refine g_iload_n rfl ?_
  refine g_if_lt (fun c493 => ?_) (fun c493 => ?_)
  · refine g_iconst (by decide) (fun v494 kv494 => ?_)
    exact g_iret ⟨_, rfl, hIH490, hJH490, (e491.symm.trans ek0_2), m492⟩
  · refine g_iload_n rfl ?_
    refine g_aload_n rfl ?_
    refine g_invvi hIH490 sm_0 rfl rfl rfl rfl (s_180 H490 hIH490 hJH490) (fun v497 H495 r496 => ?_)
    obtain ⟨rfl, bv497, p498⟩ := r496
    refine g_if2_ge (fun c499 => ?_) (fun c499 => ?_)
    · refine g_iconst (by decide) (fun v500 kv500 => ?_)
      exact g_iret ⟨_, rfl, hIH490, hJH490, (e491.symm.trans ek0_2), m492⟩
    · refine g_iload_n rfl ?_
      refine g_if_ge (fun c501 => ?_) (fun c501 => ?_)
      · refine g_aload_n rfl ?_
        refine g_iload_n rfl ?_
        refine g_invvi hIH490 sm_0 rfl rfl rfl rfl (s_229 a1 (by omega) H490 hIH490 hJH490) (fun v504 H502 r503 => ?_)
        obtain ⟨hIH502, hJH502, bv504, w505, m506⟩ := r503
        have e507 : k0_2 = fZ H502 0 2 := e491.trans w505.symm
        have m508 : kpM H H502 := kpM_t m492 m506
        refine g_if_eq (fun c509 => ?_) (fun c509 => ?_)
        · refine g_iload_n rfl ?_
          refine g_istore_n (l' := [(0, .ref 0), (1, .int a1), (2, .int a2), (3, .int a2)]) rfl rfl ?_
          refine g_iconst (by decide) (fun v510 kv510 => ?_)
          refine g_istore (l' := [(0, .ref 0), (1, .int a1), (2, .int a2), (3, .int a2), (4, .int v510)]) rfl rfl ?_
          refine g_nop ?_
          have L516 : ∀ (N : Nat) (v511 : Int32) (v512 : Int32) (H513 : mzH), gI SM H513 → JN H513 → k0_2 = fZ H513 0 2 → kpM H H513 → (0 ≤ v511.toInt ∧ v511.toInt ≤ 2147483647) → (0 ≤ v512.toInt ∧ v512.toInt ≤ 60) → (60 - v512.toInt).toNat < N → gG 5 zB_231 (mzBlk zB_231 4) [(0, .ref 0), (1, .int a1), (2, .int a2), (3, .int v511), (4, .int v512)] [] H513 0 0 (gRi (fun v H' => gI SM H' ∧ JN H' ∧ fZ H' 0 2 = fZ H 0 2 ∧ kpM H H')) := by
            intro N
            induction N with
            | zero => intro v511 v512 H513 hIH513 hJH513 e514 m515 bv511 bv512 hmL516; exact absurd hmL516 (Nat.not_lt_zero _)
            | succ N ihL516 =>
              intro v511 v512 H513 hIH513 hJH513 e514 m515 bv511 bv512 hmL516
              refine g_iload rfl ?_
              refine g_aload_n rfl ?_
              refine g_invvi hIH513 sm_0 rfl rfl rfl rfl (s_180 H513 hIH513 hJH513) (fun v519 H517 r518 => ?_)
              obtain ⟨rfl, bv519, p520⟩ := r518
              refine g_if2_ge (fun c521 => ?_) (fun c521 => ?_)
              · refine g_bipush (by decide) (fun v522 kv522 => ?_)
                exact g_iret ⟨_, rfl, hIH513, hJH513, (e514.symm.trans ek0_2), m515⟩
              · refine g_iload rfl ?_
                refine g_iload_n rfl ?_
                refine g_if2_ne (fun c523 => ?_) (fun c523 => ?_)
                · refine g_aload_n rfl ?_
                  refine g_iload rfl ?_
                  refine g_iconst (by decide) (fun v524 kv524 => ?_)
                  refine g_invvv hIH513 sm_0 rfl rfl rfl rfl (s_222 v512 (by omega) v524 (by omega) H513 hIH513 hJH513) (fun H525 r526 => ?_)
                  obtain ⟨hIH525, hJH525, w527, w528, w529, w530, w531, m532⟩ := r526
                  have e533 : k0_2 = fZ H525 0 2 := e514.trans w527.symm
                  have m534 : kpM H H525 := kpM_t m515 m532
                  refine g_aload_n rfl ?_
                  refine g_gfr hIH525 sm_0 rfl ?_
                  refine g_iload_n rfl ?_
                  refine g_iaload hIH525 sm_20 rfl (by omega) (fun v535 ev535 lv535 uv535 => ?_)
                  refine g_if_ne (fun c536 => ?_) (fun c536 => ?_)
                  · refine g_iload_n rfl ?_
                    refine g_if_ne (fun c537 => ?_) (fun c537 => ?_)
                    · refine g_iinc (l' := (fun v538 => [(0, .ref 0), (1, .int a1), (2, .int a2), (3, .int v538), (4, .int v512)])) rfl rfl (by decide) (by have := gz_any v511; omega) (fun _ => rfl) (fun v538 ev538 => ?_)
                      refine g_nop ?_
                      refine g_iinc (l' := (fun v539 => [(0, .ref 0), (1, .int a1), (2, .int a2), (3, .int v538), (4, .int v539)])) rfl rfl (by decide) (by omega) (fun _ => rfl) (fun v539 ev539 => ?_)
                      refine g_goto ?_
                      exact ihL516 v538 v539 H525 hIH525 (JM_n hJH525) e533 m534 (by have := gz_any v538; omega) (by omega) (by omega)
                    · refine g_iload rfl ?_
                      exact g_iret ⟨_, rfl, hIH525, (JM_n hJH525), (e533.symm.trans ek0_2), m534⟩
                  · refine g_goto ?_
                    refine g_iinc (l' := (fun v540 => [(0, .ref 0), (1, .int a1), (2, .int a2), (3, .int v511), (4, .int v540)])) rfl rfl (by decide) (by omega) (fun _ => rfl) (fun v540 ev540 => ?_)
                    refine g_goto ?_
                    exact ihL516 v511 v540 H525 hIH525 (JM_n hJH525) e533 m534 (by have := gz_any v511; omega) (by omega) (by omega)
                · refine g_goto ?_
                  refine g_iinc (l' := (fun v541 => [(0, .ref 0), (1, .int a1), (2, .int a2), (3, .int v511), (4, .int v541)])) rfl rfl (by decide) (by omega) (fun _ => rfl) (fun v541 ev541 => ?_)
                  refine g_goto ?_
                  exact ihL516 v511 v541 H513 hIH513 hJH513 e514 m515 (by have := gz_any v511; omega) (by omega) (by omega)
          exact L516 _ a2 v510 H502 hIH502 hJH502 e507 m508 (by have := gz_any a2; omega) (by omega) (Nat.lt_succ_self _)
        · refine g_bipush (by decide) (fun v542 kv542 => ?_)
          exact g_iret ⟨_, rfl, hIH502, hJH502, (e507.symm.trans ek0_2), m508⟩
      · refine g_nop ?_
        refine g_iconst (by decide) (fun v543 kv543 => ?_)
        exact g_iret ⟨_, rfl, hIH490, hJH490, (e491.symm.trans ek0_2), m492⟩
set_option maxRecDepth 4000 in
set_option maxHeartbeats 4000000 in
/-- M.runsAt -/
theorem s_232 (a1 : Int32) (ha1 : 0 ≤ a1.toInt ∧ a1.toInt ≤ 59) (a2 : Int32) (H : mzH) (hI : gI SM H) (hJ : JN H) : gCall 232 [.ref 0, .int a1, .int a2] H (gRv (fun H' => gI SM H' ∧ JM H' ∧ fZ H' 0 2 = fZ H 0 2 ∧ kpM H H')) := by
  obtain ⟨k0_2, ek0_2⟩ : ∃ z, z = fZ H 0 2 := ⟨_, rfl⟩
  have ik0_2 : k0_2.toInt = (fZ H 0 2).toInt := by rw [← ek0_2]
  have bk0_2 : 0 ≤ k0_2.toInt ∧ k0_2.toInt ≤ 900 := by rw [ek0_2]; exact fZ_of hI sm_0 rfl
  have mkfr : kpM H H := kpM_r
  refine gG_call [(0, .ref 0), (1, .int a1), (2, .int a2)] ⟨rfl, rfl, rfl, trivial⟩ ?_
  show gG 3 zB_232 (mzBlk zB_232 0) [(0, .ref 0), (1, .int a1), (2, .int a2)] [] H 0 0 _
  refine g_aload_n rfl ?_
  refine g_invvv hI sm_0 rfl rfl rfl rfl (s_182 H hI hJ) (fun H101 r102 => ?_)
  obtain ⟨hIH101, hJH101, m103, m104, m105, p106⟩ := r102
  have e107 : k0_2 = fZ H101 0 2 := ek0_2.trans (m103 0 2).symm
  have m108 : kpM H H101 := kpM_t mkfr m105
  refine g_aload_n rfl ?_
  refine g_gfr hIH101 sm_0 rfl ?_
  refine g_iload_n rfl ?_
  refine g_iload_n rfl ?_
  refine g_iastore hIH101 sm_18 (by omega) (gz_any _) (fun H109 eH109 hIH109 => ?_)
  have hJH109 : JN H109 := JN_sA (by decide) eH109 hJH101
  have e110 : k0_2 = fZ H109 0 2 := by rw [eH109, fZ_sA]; exact e107
  have m111 : kpM H H109 := kpM_A m108 eH109 (by omega)
  refine g_aload_n rfl ?_
  refine g_sipush (by decide) (fun v112 kv112 => ?_)
  refine g_invvv hIH109 sm_0 rfl rfl rfl rfl (s_198 v112 H109 hIH109 hJH109) (fun H113 r114 => ?_)
  obtain ⟨hIH113, hJH113, w115, w116, w117, w118, w119, m120, m121, m122, p123⟩ := r114
  have e124 : k0_2 = fZ H113 0 2 := e110.trans w115.symm
  have m125 : kpM H H113 := kpM_t m111 m122
  exact g_ret ⟨rfl, hIH113, hJH113, (e124.symm.trans ek0_2), m125⟩
set_option maxRecDepth 4000 in
set_option maxHeartbeats 4000000 in
/-- M.ifAt -/
theorem s_233 (a1 : Int32) (a2 : Int32) (a3 : Int32) (H : mzH) (hI : gI SM H) (hJ : JN H) : gCall 233 [.ref 0, .int a1, .int a2, .int a3] H (gRi (fun v H' => gI SM H' ∧ JN H' ∧ fZ H' 0 2 = fZ H 0 2 ∧ kpM H H')) := by
  obtain ⟨k0_2, ek0_2⟩ : ∃ z, z = fZ H 0 2 := ⟨_, rfl⟩
  have ik0_2 : k0_2.toInt = (fZ H 0 2).toInt := by rw [← ek0_2]
  have bk0_2 : 0 ≤ k0_2.toInt ∧ k0_2.toInt ≤ 900 := by rw [ek0_2]; exact fZ_of hI sm_0 rfl
  have mkfr : kpM H H := kpM_r
  refine gG_call [(0, .ref 0), (1, .int a1), (2, .int a2), (3, .int a3)] ⟨rfl, rfl, rfl, rfl, trivial⟩ ?_
  show gG 4 zB_233 (mzBlk zB_233 0) [(0, .ref 0), (1, .int a1), (2, .int a2), (3, .int a3)] [] H 0 0 _
  refine g_aload_n rfl ?_
  refine g_iconst (by decide) (fun v189 kv189 => ?_)
  refine g_pfi hI sm_0 rfl (gz_any _) (fun H190 eH190 hIH190 => ?_)
  have hJH190 : JN H190 := JN_sF eH190 hJ
  have e191 : k0_2 = fZ H190 0 2 := by rw [eH190, fZ_sF_ne (by decide)]; exact ek0_2
  have m192 : kpM H H190 := kpM_F mkfr eH190 (by omega)
  refine g_iload_n rfl ?_
  refine g_if_lt (fun c193 => ?_) (fun c193 => ?_)
  · refine g_sipush (by decide) (fun v194 kv194 => ?_)
    exact g_iret ⟨_, rfl, hIH190, hJH190, (e191.symm.trans ek0_2), m192⟩
  · refine g_iload_n rfl ?_
    refine g_aload_n rfl ?_
    refine g_invvi hIH190 sm_0 rfl rfl rfl rfl (s_180 H190 hIH190 hJH190) (fun v197 H195 r196 => ?_)
    obtain ⟨rfl, bv197, p198⟩ := r196
    refine g_if2_ge (fun c199 => ?_) (fun c199 => ?_)
    · refine g_sipush (by decide) (fun v200 kv200 => ?_)
      exact g_iret ⟨_, rfl, hIH190, hJH190, (e191.symm.trans ek0_2), m192⟩
    · refine g_iload_n rfl ?_
      refine g_invti rfl rfl rfl (s_206 a2 H190 hIH190 hJH190) (fun v203 H201 r202 => ?_)
      obtain ⟨rfl, bv203⟩ := r202
      refine g_if_eq (fun c204 => ?_) (fun c204 => ?_)
      · refine g_sipush (by decide) (fun v205 kv205 => ?_)
        exact g_iret ⟨_, rfl, hIH190, hJH190, (e191.symm.trans ek0_2), m192⟩
      · refine g_iload_n rfl ?_
        refine g_iconst (by decide) (fun v206 kv206 => ?_)
        refine g_if2_eq (fun c207 => ?_) (fun c207 => ?_)
        · refine g_aload_n rfl ?_
          refine g_iload_n rfl ?_
          refine g_iload_n rfl ?_
          refine g_invvv hIH190 sm_0 rfl rfl rfl rfl (s_232 a1 (by omega) a2 H190 hIH190 hJH190) (fun H208 r209 => ?_)
          obtain ⟨hIH208, hJH208, w210, m211⟩ := r209
          have e212 : k0_2 = fZ H208 0 2 := e191.trans w210.symm
          have m213 : kpM H H208 := kpM_t m192 m211
          refine g_iload_n rfl ?_
          refine g_iconst (by decide) (fun v214 kv214 => ?_)
          refine g_if2_ne (fun c215 => ?_) (fun c215 => ?_)
          · exfalso; omega
          · refine g_aload_n rfl ?_
            refine g_invvi hIH208 sm_0 rfl rfl rfl rfl (s_224 H208 hIH208 (JM_n hJH208)) (fun v218 H216 r217 => ?_)
            obtain rfl := r217
            refine g_goto ?_
            exact g_iret ⟨_, rfl, hIH208, (JM_n hJH208), (e212.symm.trans ek0_2), m213⟩
        · refine g_iload_n rfl ?_
          refine g_invti rfl rfl rfl (s_205 a3 H190 hIH190 hJH190) (fun v221 H219 r220 => ?_)
          obtain ⟨rfl, bv221, p222⟩ := r220
          refine g_if_ne (fun c223 => ?_) (fun c223 => ?_)
          · refine g_aload_n rfl ?_
            refine g_iload_n rfl ?_
            refine g_iload_n rfl ?_
            refine g_invvv hIH190 sm_0 rfl rfl rfl rfl (s_232 a1 (by omega) a2 H190 hIH190 hJH190) (fun H224 r225 => ?_)
            obtain ⟨hIH224, hJH224, w226, m227⟩ := r225
            have e228 : k0_2 = fZ H224 0 2 := e191.trans w226.symm
            have m229 : kpM H H224 := kpM_t m192 m227
            refine g_iload_n rfl ?_
            refine g_iconst (by decide) (fun v230 kv230 => ?_)
            refine g_if2_ne (fun c231 => ?_) (fun c231 => ?_)
            · refine g_aload_n rfl ?_
              refine g_iload_n rfl ?_
              refine g_invvi hIH224 sm_0 rfl rfl rfl rfl (s_201 a3 (by omega) H224 hIH224 hJH224) (fun v234 H232 r233 => ?_)
              obtain ⟨rfl, bv234⟩ := r233
              refine g_nop ?_
              exact g_iret ⟨_, rfl, hIH224, (JM_n hJH224), (e228.symm.trans ek0_2), m229⟩
            · exfalso; omega
          · refine g_nop ?_
            refine g_sipush (by decide) (fun v235 kv235 => ?_)
            exact g_iret ⟨_, rfl, hIH190, hJH190, (e191.symm.trans ek0_2), m192⟩
set_option maxRecDepth 4000 in
set_option maxHeartbeats 4000000 in
/-- M.window -/
theorem s_234 (a1 : Int32) (a2 : Int32) (H : mzH) (hI : gI SM H) (hJ : JN H) : gCall 234 [.ref 0, .int a1, .int a2] H (gRi (fun v H' => gI SM H' ∧ JN H' ∧ fZ H' 0 2 = fZ H 0 2 ∧ kpM H H')) := by
  obtain ⟨k0_2, ek0_2⟩ : ∃ z, z = fZ H 0 2 := ⟨_, rfl⟩
  have ik0_2 : k0_2.toInt = (fZ H 0 2).toInt := by rw [← ek0_2]
  have bk0_2 : 0 ≤ k0_2.toInt ∧ k0_2.toInt ≤ 900 := by rw [ek0_2]; exact fZ_of hI sm_0 rfl
  have mkfr : kpM H H := kpM_r
  refine gG_call [(0, .ref 0), (1, .int a1), (2, .int a2)] ⟨rfl, rfl, rfl, trivial⟩ ?_
  show gG 7 zB_234 (mzBlk zB_234 0) [(0, .ref 0), (1, .int a1), (2, .int a2)] [] H 0 0 _
  refine g_aload_n rfl ?_
  refine g_iconst (by decide) (fun v731 kv731 => ?_)
  refine g_pfi hI sm_0 rfl (gz_any _) (fun H732 eH732 hIH732 => ?_)
  have hJH732 : JN H732 := JN_sF eH732 hJ
  have e733 : k0_2 = fZ H732 0 2 := by rw [eH732, fZ_sF_ne (by decide)]; exact ek0_2
  have m734 : kpM H H732 := kpM_F mkfr eH732 (by omega)
  refine g_iload_n rfl ?_
  refine g_if_lt (fun c735 => ?_) (fun c735 => ?_)
  · refine g_iconst (by decide) (fun v736 kv736 => ?_)
    exact g_iret ⟨_, rfl, hIH732, hJH732, (e733.symm.trans ek0_2), m734⟩
  · refine g_iload_n rfl ?_
    refine g_aload_n rfl ?_
    refine g_invvi hIH732 sm_0 rfl rfl rfl rfl (s_180 H732 hIH732 hJH732) (fun v739 H737 r738 => ?_)
    obtain ⟨rfl, bv739, p740⟩ := r738
    refine g_if2_ge (fun c741 => ?_) (fun c741 => ?_)
    · refine g_iconst (by decide) (fun v742 kv742 => ?_)
      exact g_iret ⟨_, rfl, hIH732, hJH732, (e733.symm.trans ek0_2), m734⟩
    · refine g_iload_n rfl ?_
      refine g_if_lt (fun c743 => ?_) (fun c743 => ?_)
      · refine g_iconst (by decide) (fun v744 kv744 => ?_)
        exact g_iret ⟨_, rfl, hIH732, hJH732, (e733.symm.trans ek0_2), m734⟩
      · refine g_iload_n rfl ?_
        refine g_iconst (by decide) (fun v745 kv745 => ?_)
        refine g_if2_le (fun c746 => ?_) (fun c746 => ?_)
        · refine g_bipush (by decide) (fun v747 kv747 => ?_)
          refine g_istore_n (l' := [(0, .ref 0), (1, .int a1), (2, .int a2), (3, .int v747)]) rfl rfl ?_
          refine g_bipush (by decide) (fun v748 kv748 => ?_)
          refine g_istore (l' := [(0, .ref 0), (1, .int a1), (2, .int a2), (3, .int v747), (4, .int v748)]) rfl rfl ?_
          refine g_iconst (by decide) (fun v749 kv749 => ?_)
          refine g_istore (l' := [(0, .ref 0), (1, .int a1), (2, .int a2), (3, .int v747), (4, .int v748), (5, .int v749)]) rfl rfl ?_
          refine g_iconst (by decide) (fun v750 kv750 => ?_)
          refine g_istore (l' := [(0, .ref 0), (1, .int a1), (2, .int a2), (3, .int v747), (4, .int v748), (5, .int v749), (6, .int v750)]) rfl rfl ?_
          refine g_nop ?_
          have L758 : ∀ (N : Nat) (v751 : Int32) (v752 : Int32) (v753 : Int32) (v754 : Int32) (H755 : mzH), gI SM H755 → JN H755 → k0_2 = fZ H755 0 2 → kpM H H755 → (-2 ≤ v751.toInt ∧ v751.toInt ≤ 999) → (-2 ≤ v752.toInt ∧ v752.toInt ≤ 999) → (0 ≤ v754.toInt ∧ v754.toInt ≤ 1000) → (1000 - v754.toInt).toNat < N → gG 7 zB_234 (mzBlk zB_234 3) [(0, .ref 0), (1, .int a1), (2, .int a2), (3, .int v751), (4, .int v752), (5, .int v753), (6, .int v754)] [] H755 0 0 (gRi (fun v H' => gI SM H' ∧ JN H' ∧ fZ H' 0 2 = fZ H 0 2 ∧ kpM H H')) := by
            intro N
            induction N with
            | zero => intro v751 v752 v753 v754 H755 hIH755 hJH755 e756 m757 bv751 bv752 bv754 hmL758; exact absurd hmL758 (Nat.not_lt_zero _)
            | succ N ihL758 =>
              intro v751 v752 v753 v754 H755 hIH755 hJH755 e756 m757 bv751 bv752 bv754 hmL758
              refine g_iload rfl ?_
              refine g_sipush (by decide) (fun v759 kv759 => ?_)
              refine g_if2_gt (fun c760 => ?_) (fun c760 => ?_)
              · refine g_iload_n rfl ?_
                refine g_if_ne (fun c761 => ?_) (fun c761 => ?_)
                · refine g_iload_n rfl ?_
                  refine g_iconst (by decide) (fun v762 kv762 => ?_)
                  refine g_if2_ne (fun c763 => ?_) (fun c763 => ?_)
                  · refine g_iload rfl ?_
                    refine g_nop ?_
                    exact g_iret ⟨_, rfl, hIH755, hJH755, (e756.symm.trans ek0_2), m757⟩
                  · refine g_iload rfl ?_
                    refine g_goto ?_
                    exact g_iret ⟨_, rfl, hIH755, hJH755, (e756.symm.trans ek0_2), m757⟩
                · refine g_iload_n rfl ?_
                  refine g_goto ?_
                  exact g_iret ⟨_, rfl, hIH755, hJH755, (e756.symm.trans ek0_2), m757⟩
              · refine g_aload_n rfl ?_
                refine g_iload_n rfl ?_
                refine g_iload rfl ?_
                refine g_invvv hIH755 sm_0 rfl rfl rfl rfl (s_232 a1 (by omega) v754 H755 hIH755 hJH755) (fun H764 r765 => ?_)
                obtain ⟨hIH764, hJH764, w766, m767⟩ := r765
                have e768 : k0_2 = fZ H764 0 2 := e756.trans w766.symm
                have m769 : kpM H H764 := kpM_t m757 m767
                refine g_aload_n rfl ?_
                refine g_gfr hIH764 sm_0 rfl ?_
                refine g_iload_n rfl ?_
                refine g_iaload hIH764 sm_20 rfl (by omega) (fun v770 ev770 lv770 uv770 => ?_)
                refine g_if_eq (fun c771 => ?_) (fun c771 => ?_)
                · refine g_iload rfl ?_
                  refine g_if_ne (fun c772 => ?_) (fun c772 => ?_)
                  · refine g_iload_n rfl ?_
                    refine g_nop ?_
                    refine g_istore_n (l' := [(0, .ref 0), (1, .int a1), (2, .int a2), (3, .int v751), (4, .int v752), (5, .int v753), (6, .int v754)]) rfl rfl ?_
                    refine g_iload rfl ?_
                    refine g_istore (l' := [(0, .ref 0), (1, .int a1), (2, .int a2), (3, .int v751), (4, .int v754), (5, .int v753), (6, .int v754)]) rfl rfl ?_
                    refine g_iinc' (l' := (fun v773 => [(0, .ref 0), (1, .int a1), (2, .int a2), (3, .int v751), (4, .int v754), (5, .int v773), (6, .int v754)])) rfl rfl (fun _ => rfl) (fun v773 => ?_)
                    refine g_nop ?_
                    refine g_iinc (l' := (fun v774 => [(0, .ref 0), (1, .int a1), (2, .int a2), (3, .int v751), (4, .int v754), (5, .int v773), (6, .int v774)])) rfl rfl (by decide) (by omega) (fun _ => rfl) (fun v774 ev774 => ?_)
                    refine g_goto ?_
                    exact ihL758 v751 v754 v773 v774 H764 hIH764 (JM_n hJH764) e768 m769 (by omega) (by omega) (by omega) (by omega)
                  · refine g_iload rfl ?_
                    refine g_goto ?_
                    refine g_istore_n (l' := [(0, .ref 0), (1, .int a1), (2, .int a2), (3, .int v754), (4, .int v752), (5, .int v753), (6, .int v754)]) rfl rfl ?_
                    refine g_iload rfl ?_
                    refine g_istore (l' := [(0, .ref 0), (1, .int a1), (2, .int a2), (3, .int v754), (4, .int v754), (5, .int v753), (6, .int v754)]) rfl rfl ?_
                    refine g_iinc (l' := (fun v775 => [(0, .ref 0), (1, .int a1), (2, .int a2), (3, .int v754), (4, .int v754), (5, .int v775), (6, .int v754)])) rfl rfl (by decide) (by omega) (fun _ => rfl) (fun v775 ev775 => ?_)
                    refine g_nop ?_
                    refine g_iinc (l' := (fun v776 => [(0, .ref 0), (1, .int a1), (2, .int a2), (3, .int v754), (4, .int v754), (5, .int v775), (6, .int v776)])) rfl rfl (by decide) (by omega) (fun _ => rfl) (fun v776 ev776 => ?_)
                    refine g_goto ?_
                    exact ihL758 v754 v754 v775 v776 H764 hIH764 (JM_n hJH764) e768 m769 (by omega) (by omega) (by omega) (by omega)
                · refine g_goto ?_
                  refine g_iinc (l' := (fun v777 => [(0, .ref 0), (1, .int a1), (2, .int a2), (3, .int v751), (4, .int v752), (5, .int v753), (6, .int v777)])) rfl rfl (by decide) (by omega) (fun _ => rfl) (fun v777 ev777 => ?_)
                  refine g_goto ?_
                  exact ihL758 v751 v752 v753 v777 H764 hIH764 (JM_n hJH764) e768 m769 (by omega) (by omega) (by omega) (by omega)
          exact L758 _ v747 v748 v749 v750 H732 hIH732 hJH732 e733 m734 (by omega) (by omega) (by omega) (Nat.lt_succ_self _)
        · refine g_nop ?_
          refine g_iconst (by decide) (fun v778 kv778 => ?_)
          exact g_iret ⟨_, rfl, hIH732, hJH732, (e733.symm.trans ek0_2), m734⟩
set_option maxRecDepth 4000 in
set_option maxHeartbeats 4000000 in
/-- M.meets -/
theorem s_235 (H : mzH) (hI : gI SM H) (hJ : JM H) : gCall 235 [.ref 0] H (gRv (fun H' => gI SM H' ∧ JM H' ∧ (∀ a f, fZ H' a f = fZ H a f) ∧ kpM H H')) := by
  have mkF : ∀ a f, fZ H a f = fZ H a f := fun _ _ => rfl
  have mkfr : kpM H H := kpM_r
  refine gG_call [(0, .ref 0)] ⟨rfl, trivial⟩ ?_
  show gG 2 zB_235 (mzBlk zB_235 0) [(0, .ref 0)] [] H 0 0 _
  refine g_iconst (by decide) (fun v589 kv589 => ?_)
  refine g_istore_n (l' := [(0, .ref 0), (1, .int v589)]) rfl rfl ?_
  refine g_nop ?_
  have L594 : ∀ (N : Nat) (v590 : Int32) (H591 : mzH), gI SM H591 → JM H591 → (∀ a f, fZ H591 a f = fZ H a f) → kpM H H591 → (0 ≤ v590.toInt ∧ v590.toInt ≤ 40) → (40 - v590.toInt).toNat < N → gG 2 zB_235 (mzBlk zB_235 1) [(0, .ref 0), (1, .int v590)] [] H591 0 0 (gRv (fun H' => gI SM H' ∧ JM H' ∧ (∀ a f, fZ H' a f = fZ H a f) ∧ kpM H H')) := by
    intro N
    induction N with
    | zero => intro v590 H591 hIH591 hJH591 m592 m593 bv590 hmL594; exact absurd hmL594 (Nat.not_lt_zero _)
    | succ N ihL594 =>
      intro v590 H591 hIH591 hJH591 m592 m593 bv590 hmL594
      refine g_iload_n rfl ?_
      refine g_bipush (by decide) (fun v595 kv595 => ?_)
      refine g_if2_ge (fun c596 => ?_) (fun c596 => ?_)
      · refine g_iconst (by decide) (fun v597 kv597 => ?_)
        refine g_istore_n (l' := [(0, .ref 0), (1, .int v597)]) rfl rfl ?_
        refine g_nop ?_
        have L602 : ∀ (N : Nat) (v598 : Int32) (H599 : mzH), gI SM H599 → JM H599 → (∀ a f, fZ H599 a f = fZ H a f) → kpM H H599 → (0 ≤ v598.toInt ∧ v598.toInt ≤ 40) → (40 - v598.toInt).toNat < N → gG 2 zB_235 (mzBlk zB_235 3) [(0, .ref 0), (1, .int v598)] [] H599 0 0 (gRv (fun H' => gI SM H' ∧ JM H' ∧ (∀ a f, fZ H' a f = fZ H a f) ∧ kpM H H')) := by
          intro N
          induction N with
          | zero => intro v598 H599 hIH599 hJH599 m600 m601 bv598 hmL602; exact absurd hmL602 (Nat.not_lt_zero _)
          | succ N ihL602 =>
            intro v598 H599 hIH599 hJH599 m600 m601 bv598 hmL602
            refine g_iload_n rfl ?_
            refine g_bipush (by decide) (fun v603 kv603 => ?_)
            refine g_if2_ge (fun c604 => ?_) (fun c604 => ?_)
            · refine g_iconst (by decide) (fun v605 kv605 => ?_)
              refine g_istore_n (l' := [(0, .ref 0), (1, .int v605)]) rfl rfl ?_
              refine g_nop ?_
              have L610 : ∀ (N : Nat) (v606 : Int32) (H607 : mzH), gI SM H607 → JM H607 → (∀ a f, fZ H607 a f = fZ H a f) → kpM H H607 → (0 ≤ v606.toInt ∧ v606.toInt ≤ 40) → (40 - v606.toInt).toNat < N → gG 2 zB_235 (mzBlk zB_235 6) [(0, .ref 0), (1, .int v606)] [] H607 0 0 (gRv (fun H' => gI SM H' ∧ JM H' ∧ (∀ a f, fZ H' a f = fZ H a f) ∧ kpM H H')) := by
                intro N
                induction N with
                | zero => intro v606 H607 hIH607 hJH607 m608 m609 bv606 hmL610; exact absurd hmL610 (Nat.not_lt_zero _)
                | succ N ihL610 =>
                  intro v606 H607 hIH607 hJH607 m608 m609 bv606 hmL610
                  refine g_iload_n rfl ?_
                  refine g_bipush (by decide) (fun v611 kv611 => ?_)
                  refine g_if2_ge (fun c612 => ?_) (fun c612 => ?_)
                  · exact g_ret ⟨rfl, hIH607, hJH607, m608, m609⟩
                  · refine g_aload_n rfl ?_
                    refine g_gfr hIH607 sm_0 rfl ?_
                    refine g_iload_n rfl ?_
                    refine g_baload hIH607 sm_7 rfl (by omega) (fun v613 ev613 lv613 uv613 => ?_)
                    refine g_if_eq (fun c614 => ?_) (fun c614 => ?_)
                    · refine g_iinc (l' := (fun v615 => [(0, .ref 0), (1, .int v615)])) rfl rfl (by decide) (by omega) (fun _ => rfl) (fun v615 ev615 => ?_)
                      refine g_goto ?_
                      exact ihL610 v615 H607 hIH607 hJH607 m608 m609 (by omega) (by omega)
                    · refine g_aload_n rfl ?_
                      refine g_gfr hIH607 sm_0 rfl ?_
                      refine g_iload_n rfl ?_
                      refine g_baload hIH607 sm_16 rfl (by omega) (fun v616 ev616 lv616 uv616 => ?_)
                      refine g_if_ne (fun c617 => ?_) (fun c617 => ?_)
                      · refine g_iinc (l' := (fun v618 => [(0, .ref 0), (1, .int v618)])) rfl rfl (by decide) (by omega) (fun _ => rfl) (fun v618 ev618 => ?_)
                        refine g_goto ?_
                        exact ihL610 v618 H607 hIH607 hJH607 m608 m609 (by omega) (by omega)
                      · refine g_aload_n rfl ?_
                        refine g_gfr hIH607 sm_0 rfl ?_
                        refine g_aload_n rfl ?_
                        refine g_iload_n rfl ?_
                        refine g_invvi hIH607 sm_0 rfl rfl rfl rfl (s_185 v606 (by omega) H607 hIH607 hJH607) (fun v621 H619 r620 => ?_)
                        obtain ⟨rfl, bv621⟩ := r620
                        refine g_baload hIH607 sm_21 rfl (by omega) (fun v622 ev622 lv622 uv622 => ?_)
                        refine g_if_eq (fun c623 => ?_) (fun c623 => ?_)
                        · refine g_iinc (l' := (fun v624 => [(0, .ref 0), (1, .int v624)])) rfl rfl (by decide) (by omega) (fun _ => rfl) (fun v624 ev624 => ?_)
                          refine g_goto ?_
                          exact ihL610 v624 H607 hIH607 hJH607 m608 m609 (by omega) (by omega)
                        · refine g_aload_n rfl ?_
                          refine g_gfr hIH607 sm_0 rfl ?_
                          refine g_iload_n rfl ?_
                          refine g_iconst (by decide) (fun v625 kv625 => ?_)
                          refine g_zastore hIH607 sm_25 (by omega) (by omega) (fun H626 eH626 hIH626 => ?_)
                          have hJH626 : JM H626 := JM_sA (by decide) eH626 hJH607
                          have m627 : ∀ a f, fZ H626 a f = fZ H a f := fun a f => (by rw [eH626, fZ_sA] : fZ H626 a f = fZ H607 a f).trans (m608 a f)
                          have m628 : kpM H H626 := kpM_A m609 eH626 (by omega)
                          refine g_nop ?_
                          refine g_iinc (l' := (fun v629 => [(0, .ref 0), (1, .int v629)])) rfl rfl (by decide) (by omega) (fun _ => rfl) (fun v629 ev629 => ?_)
                          refine g_goto ?_
                          exact ihL610 v629 H626 hIH626 hJH626 m627 m628 (by omega) (by omega)
              exact L610 _ v605 H599 hIH599 hJH599 m600 m601 (by omega) (Nat.lt_succ_self _)
            · refine g_aload_n rfl ?_
              refine g_gfr hIH599 sm_0 rfl ?_
              refine g_iload_n rfl ?_
              refine g_baload hIH599 sm_25 rfl (by omega) (fun v630 ev630 lv630 uv630 => ?_)
              refine g_if_eq (fun c631 => ?_) (fun c631 => ?_)
              · refine g_iinc (l' := (fun v632 => [(0, .ref 0), (1, .int v632)])) rfl rfl (by decide) (by omega) (fun _ => rfl) (fun v632 ev632 => ?_)
                refine g_goto ?_
                exact ihL602 v632 H599 hIH599 hJH599 m600 m601 (by omega) (by omega)
              · refine g_aload_n rfl ?_
                refine g_gfr hIH599 sm_0 rfl ?_
                refine g_iload_n rfl ?_
                refine g_baload hIH599 sm_7 rfl (by omega) (fun v633 ev633 lv633 uv633 => ?_)
                refine g_if_eq (fun c634 => ?_) (fun c634 => ?_)
                · refine g_iinc (l' := (fun v635 => [(0, .ref 0), (1, .int v635)])) rfl rfl (by decide) (by omega) (fun _ => rfl) (fun v635 ev635 => ?_)
                  refine g_goto ?_
                  exact ihL602 v635 H599 hIH599 hJH599 m600 m601 (by omega) (by omega)
                · refine g_aload_n rfl ?_
                  refine g_gfr hIH599 sm_0 rfl ?_
                  refine g_iload_n rfl ?_
                  refine g_baload hIH599 sm_16 rfl (by omega) (fun v636 ev636 lv636 uv636 => ?_)
                  refine g_if_ne (fun c637 => ?_) (fun c637 => ?_)
                  · refine g_iinc (l' := (fun v638 => [(0, .ref 0), (1, .int v638)])) rfl rfl (by decide) (by omega) (fun _ => rfl) (fun v638 ev638 => ?_)
                    refine g_goto ?_
                    exact ihL602 v638 H599 hIH599 hJH599 m600 m601 (by omega) (by omega)
                  · refine g_aload_n rfl ?_
                    refine g_gfr hIH599 sm_0 rfl ?_
                    refine g_aload_n rfl ?_
                    refine g_iload_n rfl ?_
                    refine g_invvi hIH599 sm_0 rfl rfl rfl rfl (s_185 v598 (by omega) H599 hIH599 hJH599) (fun v641 H639 r640 => ?_)
                    obtain ⟨rfl, bv641⟩ := r640
                    refine g_iconst (by decide) (fun v642 kv642 => ?_)
                    refine g_zastore hIH599 sm_21 (by omega) (by omega) (fun H643 eH643 hIH643 => ?_)
                    have hJH643 : JM H643 := JM_sA (by decide) eH643 hJH599
                    have m644 : ∀ a f, fZ H643 a f = fZ H a f := fun a f => (by rw [eH643, fZ_sA] : fZ H643 a f = fZ H599 a f).trans (m600 a f)
                    have m645 : kpM H H643 := kpM_A m601 eH643 (by omega)
                    refine g_nop ?_
                    refine g_iinc (l' := (fun v646 => [(0, .ref 0), (1, .int v646)])) rfl rfl (by decide) (by omega) (fun _ => rfl) (fun v646 ev646 => ?_)
                    refine g_goto ?_
                    exact ihL602 v646 H643 hIH643 hJH643 m644 m645 (by omega) (by omega)
        exact L602 _ v597 H591 hIH591 hJH591 m592 m593 (by omega) (Nat.lt_succ_self _)
      · refine g_aload_n rfl ?_
        refine g_gfr hIH591 sm_0 rfl ?_
        refine g_iload_n rfl ?_
        refine g_iconst (by decide) (fun v647 kv647 => ?_)
        refine g_zastore hIH591 sm_21 (by omega) (by omega) (fun H648 eH648 hIH648 => ?_)
        have hJH648 : JM H648 := JM_sA (by decide) eH648 hJH591
        have m649 : ∀ a f, fZ H648 a f = fZ H a f := fun a f => (by rw [eH648, fZ_sA] : fZ H648 a f = fZ H591 a f).trans (m592 a f)
        have m650 : kpM H H648 := kpM_A m593 eH648 (by omega)
        refine g_iinc (l' := (fun v651 => [(0, .ref 0), (1, .int v651)])) rfl rfl (by decide) (by omega) (fun _ => rfl) (fun v651 ev651 => ?_)
        refine g_goto ?_
        exact ihL594 v651 H648 hIH648 hJH648 m649 m650 (by omega) (by omega)
  exact L594 _ v589 H hI hJ mkF mkfr (by omega) (Nat.lt_succ_self _)
set_option maxRecDepth 4000 in
set_option maxHeartbeats 4000000 in
/-- M.pick -/
theorem s_236 (a1 : Int32) (H : mzH) (hI : gI SM H) (hJ : JN H) : gCall 236 [.ref 25, .int a1] H (gRi (fun v H' => H = H')) := by
  refine gG_call [(0, .ref 25), (1, .int a1)] ⟨rfl, rfl, trivial⟩ ?_
  show gG 4 zB_236 (mzBlk zB_236 0) [(0, .ref 25), (1, .int a1)] [] H 0 0 _
  refine g_iload_n rfl ?_
  refine g_istore_n (l' := [(0, .ref 25), (1, .int a1), (2, .int a1)]) rfl rfl ?_
  refine g_iconst (by decide) (fun v141 kv141 => ?_)
  refine g_istore_n (l' := [(0, .ref 25), (1, .int a1), (2, .int a1), (3, .int v141)]) rfl rfl ?_
  refine g_nop ?_
  have L144 : ∀ (N : Nat) (v142 : Int32) (v143 : Int32), (0 ≤ v143.toInt ∧ v143.toInt ≤ 40) → (40 - v143.toInt).toNat < N → gG 4 zB_236 (mzBlk zB_236 1) [(0, .ref 25), (1, .int a1), (2, .int v142), (3, .int v143)] [] H 0 0 (gRi (fun v H' => H = H')) := by
    intro N
    induction N with
    | zero => intro v142 v143 bv143 hmL144; exact absurd hmL144 (Nat.not_lt_zero _)
    | succ N ihL144 =>
      intro v142 v143 bv143 hmL144
      refine g_iload_n rfl ?_
      refine g_bipush (by decide) (fun v145 kv145 => ?_)
      refine g_if2_ge (fun c146 => ?_) (fun c146 => ?_)
      · refine g_bipush (by decide) (fun v147 kv147 => ?_)
        exact g_iret ⟨_, rfl, rfl⟩
      · refine g_aload_n rfl ?_
        refine g_iload_n rfl ?_
        refine g_baload hI sm_25 rfl (by omega) (fun v148 ev148 lv148 uv148 => ?_)
        refine g_if_ne (fun c149 => ?_) (fun c149 => ?_)
        · refine g_iload_n rfl ?_
          refine g_if_ne (fun c150 => ?_) (fun c150 => ?_)
          · refine g_iinc' (l' := (fun v151 => [(0, .ref 25), (1, .int a1), (2, .int v151), (3, .int v143)])) rfl rfl (fun _ => rfl) (fun v151 => ?_)
            refine g_nop ?_
            refine g_iinc (l' := (fun v152 => [(0, .ref 25), (1, .int a1), (2, .int v151), (3, .int v152)])) rfl rfl (by decide) (by omega) (fun _ => rfl) (fun v152 ev152 => ?_)
            refine g_goto ?_
            exact ihL144 v151 v152 (by omega) (by omega)
          · refine g_iload_n rfl ?_
            exact g_iret ⟨_, rfl, rfl⟩
        · refine g_goto ?_
          refine g_iinc (l' := (fun v153 => [(0, .ref 25), (1, .int a1), (2, .int v142), (3, .int v153)])) rfl rfl (by decide) (by omega) (fun _ => rfl) (fun v153 ev153 => ?_)
          refine g_goto ?_
          exact ihL144 v142 v153 (by omega) (by omega)
  exact L144 _ a1 v141 (by omega) (Nat.lt_succ_self _)
set_option maxRecDepth 4000 in
set_option maxHeartbeats 4000000 in
/-- M.met -/
theorem s_237 (a1 : Int32) (a2 : Int32) (a3 : Int32) (H : mzH) (hI : gI SM H) (hJ : JN H) : gCall 237 [.ref 0, .int a1, .int a2, .int a3] H (gRi (fun v H' => gI SM H' ∧ JN H' ∧ fZ H' 0 2 = fZ H 0 2 ∧ kpM H H')) := by
  obtain ⟨k0_2, ek0_2⟩ : ∃ z, z = fZ H 0 2 := ⟨_, rfl⟩
  have ik0_2 : k0_2.toInt = (fZ H 0 2).toInt := by rw [← ek0_2]
  have bk0_2 : 0 ≤ k0_2.toInt ∧ k0_2.toInt ≤ 900 := by rw [ek0_2]; exact fZ_of hI sm_0 rfl
  have mkfr : kpM H H := kpM_r
  refine gG_call [(0, .ref 0), (1, .int a1), (2, .int a2), (3, .int a3)] ⟨rfl, rfl, rfl, rfl, trivial⟩ ?_
  show gG 5 zB_237 (mzBlk zB_237 0) [(0, .ref 0), (1, .int a1), (2, .int a2), (3, .int a3)] [] H 0 0 _
  refine g_aload_n rfl ?_
  refine g_iconst (by decide) (fun v703 kv703 => ?_)
  refine g_pfi hI sm_0 rfl (gz_any _) (fun H704 eH704 hIH704 => ?_)
  have hJH704 : JN H704 := JN_sF eH704 hJ
  have e705 : k0_2 = fZ H704 0 2 := by rw [eH704, fZ_sF_ne (by decide)]; exact ek0_2
  have m706 : kpM H H704 := kpM_F mkfr eH704 (by omega)
  refine g_iload_n rfl ?_
  refine g_invti rfl rfl rfl (s_205 a1 H704 hIH704 hJH704) (fun v709 H707 r708 => ?_)
  obtain ⟨rfl, bv709, p710⟩ := r708
  refine g_if_eq (fun c711 => ?_) (fun c711 => ?_)
  · refine g_iconst (by decide) (fun v712 kv712 => ?_)
    exact g_iret ⟨_, rfl, hIH704, hJH704, (e705.symm.trans ek0_2), m706⟩
  · refine g_iload_n rfl ?_
    refine g_invti rfl rfl rfl (s_206 a2 H704 hIH704 hJH704) (fun v715 H713 r714 => ?_)
    obtain ⟨rfl, bv715⟩ := r714
    refine g_if_eq (fun c716 => ?_) (fun c716 => ?_)
    · refine g_iconst (by decide) (fun v717 kv717 => ?_)
      exact g_iret ⟨_, rfl, hIH704, hJH704, (e705.symm.trans ek0_2), m706⟩
    · refine g_iload_n rfl ?_
      refine g_if_ge (fun c718 => ?_) (fun c718 => ?_)
      · refine g_aload_n rfl ?_
        refine g_iload_n rfl ?_
        refine g_invvv hIH704 sm_0 rfl rfl rfl rfl (s_200 a2 H704 hIH704 hJH704) (fun H719 r720 => ?_)
        obtain ⟨hIH719, hJH719, w721, m722⟩ := r720
        have e723 : k0_2 = fZ H719 0 2 := e705.trans w721.symm
        have m724 : kpM H H719 := kpM_t m706 m722
        refine g_aload_n rfl ?_
        refine g_gfr hIH719 sm_0 rfl ?_
        refine g_iload_n rfl ?_
        refine g_baload hIH719 sm_7 rfl (by omega) (fun v725 ev725 lv725 uv725 => ?_)
        refine g_if_eq (fun c726 => ?_) (fun c726 => ?_)
        · refine g_bipush (by decide) (fun v727 kv727 => ?_)
          exact g_iret ⟨_, rfl, hIH719, (JM_n hJH719), (e723.symm.trans ek0_2), m724⟩
        · refine g_aload_n rfl ?_
          refine g_gfr hIH719 sm_0 rfl ?_
          refine g_iload_n rfl ?_
          refine g_baload hIH719 sm_16 rfl (by omega) (fun v728 ev728 lv728 uv728 => ?_)
          refine g_if_eq (fun c729 => ?_) (fun c729 => ?_)
          · refine g_iconst (by decide) (fun v730 kv730 => ?_)
            refine g_istore (l' := [(0, .ref 0), (1, .int a1), (2, .int a2), (3, .int a3), (4, .int v730)]) rfl rfl ?_
            refine g_nop ?_
            have L735 : ∀ (N : Nat) (v731 : Int32) (H732 : mzH), gI SM H732 → JM H732 → k0_2 = fZ H732 0 2 → kpM H H732 → (0 ≤ v731.toInt ∧ v731.toInt ≤ 40) → (40 - v731.toInt).toNat < N → gG 5 zB_237 (mzBlk zB_237 5) [(0, .ref 0), (1, .int a1), (2, .int a2), (3, .int a3), (4, .int v731)] [] H732 0 0 (gRi (fun v H' => gI SM H' ∧ JN H' ∧ fZ H' 0 2 = fZ H 0 2 ∧ kpM H H')) := by
              intro N
              induction N with
              | zero => intro v731 H732 hIH732 hJH732 e733 m734 bv731 hmL735; exact absurd hmL735 (Nat.not_lt_zero _)
              | succ N ihL735 =>
                intro v731 H732 hIH732 hJH732 e733 m734 bv731 hmL735
                refine g_iload rfl ?_
                refine g_bipush (by decide) (fun v736 kv736 => ?_)
                refine g_if2_ge (fun c737 => ?_) (fun c737 => ?_)
                · refine g_aload_n rfl ?_
                  refine g_invvv hIH732 sm_0 rfl rfl rfl rfl (s_235 H732 hIH732 hJH732) (fun H738 r739 => ?_)
                  obtain ⟨hIH738, hJH738, m740, m741⟩ := r739
                  have e742 : k0_2 = fZ H738 0 2 := e733.trans (m740 0 2).symm
                  have m743 : kpM H H738 := kpM_t m734 m741
                  refine g_iconst (by decide) (fun v744 kv744 => ?_)
                  refine g_istore (l' := [(0, .ref 0), (1, .int a1), (2, .int a2), (3, .int a3), (4, .int v744)]) rfl rfl ?_
                  refine g_nop ?_
                  have L749 : ∀ (N : Nat) (v745 : Int32) (H746 : mzH), gI SM H746 → JM H746 → k0_2 = fZ H746 0 2 → kpM H H746 → (0 ≤ v745.toInt ∧ v745.toInt ≤ 60) → (60 - v745.toInt).toNat < N → gG 5 zB_237 (mzBlk zB_237 9) [(0, .ref 0), (1, .int a1), (2, .int a2), (3, .int a3), (4, .int v745)] [] H746 0 0 (gRi (fun v H' => gI SM H' ∧ JN H' ∧ fZ H' 0 2 = fZ H 0 2 ∧ kpM H H')) := by
                    intro N
                    induction N with
                    | zero => intro v745 H746 hIH746 hJH746 e747 m748 bv745 hmL749; exact absurd hmL749 (Nat.not_lt_zero _)
                    | succ N ihL749 =>
                      intro v745 H746 hIH746 hJH746 e747 m748 bv745 hmL749
                      refine g_iload rfl ?_
                      refine g_aload_n rfl ?_
                      refine g_gfi hIH746 sm_0 rfl (fun v750 ev750 lv750 uv750 => ?_)
                      refine g_if2_ge (fun c751 => ?_) (fun c751 => ?_)
                      · refine g_aload_n rfl ?_
                        refine g_gfr hIH746 sm_0 rfl ?_
                        refine g_iload_n rfl ?_
                        refine g_invti rfl rfl rfl (s_236 a3 H746 hIH746 (JM_n hJH746)) (fun v754 H752 r753 => ?_)
                        obtain rfl := r753
                        exact g_iret ⟨_, rfl, hIH746, (JM_n hJH746), (e747.symm.trans ek0_2), m748⟩
                      · refine g_aload_n rfl ?_
                        refine g_gfr hIH746 sm_0 rfl ?_
                        refine g_aload_n rfl ?_
                        refine g_gfr hIH746 sm_0 rfl ?_
                        refine g_iload rfl ?_
                        refine g_iaload hIH746 sm_19 rfl (by omega) (fun v755 ev755 lv755 uv755 => ?_)
                        refine g_iaload hIH746 sm_18 rfl (by omega) (fun v756 ev756 lv756 uv756 => ?_)
                        refine g_iload_n rfl ?_
                        refine g_if2_gt (fun c757 => ?_) (fun c757 => ?_)
                        · refine g_aload_n rfl ?_
                          refine g_aload_n rfl ?_
                          refine g_gfr hIH746 sm_0 rfl ?_
                          refine g_iload rfl ?_
                          refine g_ialoadk hIH746 sm_19 rfl (by omega) ev755 ?_
                          refine g_invvv hIH746 sm_0 rfl rfl rfl rfl (s_192 v755 (by omega) H746 hIH746 hJH746) (fun H758 r759 => ?_)
                          obtain ⟨hIH758, hJH758, m760, m761, m762, m763, m764⟩ := r759
                          have e765 : k0_2 = fZ H758 0 2 := e747.trans (m760 0 2).symm
                          have m766 : kpM H H758 := kpM_t m748 m764
                          refine g_aload_n rfl ?_
                          refine g_invvv hIH758 sm_0 rfl rfl rfl rfl (s_235 H758 hIH758 hJH758) (fun H767 r768 => ?_)
                          obtain ⟨hIH767, hJH767, m769, m770⟩ := r768
                          have e771 : k0_2 = fZ H767 0 2 := e765.trans (m769 0 2).symm
                          have m772 : kpM H H767 := kpM_t m766 m770
                          refine g_nop ?_
                          refine g_iinc (l' := (fun v773 => [(0, .ref 0), (1, .int a1), (2, .int a2), (3, .int a3), (4, .int v773)])) rfl rfl (by decide) (by omega) (fun _ => rfl) (fun v773 ev773 => ?_)
                          refine g_goto ?_
                          exact ihL749 v773 H767 hIH767 hJH767 e771 m772 (by omega) (by omega)
                        · refine g_goto ?_
                          refine g_iinc (l' := (fun v774 => [(0, .ref 0), (1, .int a1), (2, .int a2), (3, .int a3), (4, .int v774)])) rfl rfl (by decide) (by omega) (fun _ => rfl) (fun v774 ev774 => ?_)
                          refine g_goto ?_
                          exact ihL749 v774 H746 hIH746 hJH746 e747 m748 (by omega) (by omega)
                  exact L749 _ v744 H738 hIH738 hJH738 e742 m743 (by omega) (Nat.lt_succ_self _)
                · refine g_aload_n rfl ?_
                  refine g_gfr hIH732 sm_0 rfl ?_
                  refine g_iload rfl ?_
                  refine g_iload rfl ?_
                  refine g_iload_n rfl ?_
                  refine g_if2_ne (fun c775 => ?_) (fun c775 => ?_)
                  · refine g_iconst (by decide) (fun v776 kv776 => ?_)
                    refine g_nop ?_
                    refine g_zastore hIH732 sm_25 (by omega) (by omega) (fun H777 eH777 hIH777 => ?_)
                    have hJH777 : JM H777 := JM_sA (by decide) eH777 hJH732
                    have e778 : k0_2 = fZ H777 0 2 := by rw [eH777, fZ_sA]; exact e733
                    have m779 : kpM H H777 := kpM_A m734 eH777 (by omega)
                    refine g_iinc (l' := (fun v780 => [(0, .ref 0), (1, .int a1), (2, .int a2), (3, .int a3), (4, .int v780)])) rfl rfl (by decide) (by omega) (fun _ => rfl) (fun v780 ev780 => ?_)
                    refine g_goto ?_
                    exact ihL735 v780 H777 hIH777 hJH777 e778 m779 (by omega) (by omega)
                  · refine g_iconst (by decide) (fun v781 kv781 => ?_)
                    refine g_goto ?_
                    refine g_zastore hIH732 sm_25 (by omega) (by omega) (fun H782 eH782 hIH782 => ?_)
                    have hJH782 : JM H782 := JM_sA (by decide) eH782 hJH732
                    have e783 : k0_2 = fZ H782 0 2 := by rw [eH782, fZ_sA]; exact e733
                    have m784 : kpM H H782 := kpM_A m734 eH782 (by omega)
                    refine g_iinc (l' := (fun v785 => [(0, .ref 0), (1, .int a1), (2, .int a2), (3, .int a3), (4, .int v785)])) rfl rfl (by decide) (by omega) (fun _ => rfl) (fun v785 ev785 => ?_)
                    refine g_goto ?_
                    exact ihL735 v785 H782 hIH782 hJH782 e783 m784 (by omega) (by omega)
            exact L735 _ v730 H719 hIH719 hJH719 e723 m724 (by omega) (Nat.lt_succ_self _)
          · refine g_nop ?_
            refine g_bipush (by decide) (fun v786 kv786 => ?_)
            exact g_iret ⟨_, rfl, hIH719, (JM_n hJH719), (e723.symm.trans ek0_2), m724⟩
      · refine g_nop ?_
        refine g_iconst (by decide) (fun v787 kv787 => ?_)
        exact g_iret ⟨_, rfl, hIH704, hJH704, (e705.symm.trans ek0_2), m706⟩
set_option maxRecDepth 4000 in
set_option maxHeartbeats 4000000 in
/-- M.adds -/
theorem s_238 (a1 : Int32) (H : mzH) (hI : gI SM H) (hJ : JM H) : gCall 238 [.ref 0, .int a1] H (gRv (fun H' => gI SM H' ∧ JM H' ∧ (∀ a f, fZ H' a f = fZ H a f) ∧ kpM H H')) := by
  have mkF : ∀ a f, fZ H a f = fZ H a f := fun _ _ => rfl
  have mkfr : kpM H H := kpM_r
  refine gG_call [(0, .ref 0), (1, .int a1)] ⟨rfl, rfl, trivial⟩ ?_
  show gG 3 zB_238 (mzBlk zB_238 0) [(0, .ref 0), (1, .int a1)] [] H 0 0 _
  refine g_iconst (by decide) (fun v305 kv305 => ?_)
  refine g_istore_n (l' := [(0, .ref 0), (1, .int a1), (2, .int v305)]) rfl rfl ?_
  refine g_nop ?_
  have L310 : ∀ (N : Nat) (v306 : Int32) (H307 : mzH), gI SM H307 → JM H307 → (∀ a f, fZ H307 a f = fZ H a f) → kpM H H307 → (0 ≤ v306.toInt ∧ v306.toInt ≤ 40) → (40 - v306.toInt).toNat < N → gG 3 zB_238 (mzBlk zB_238 1) [(0, .ref 0), (1, .int a1), (2, .int v306)] [] H307 0 0 (gRv (fun H' => gI SM H' ∧ JM H' ∧ (∀ a f, fZ H' a f = fZ H a f) ∧ kpM H H')) := by
    intro N
    induction N with
    | zero => intro v306 H307 hIH307 hJH307 m308 m309 bv306 hmL310; exact absurd hmL310 (Nat.not_lt_zero _)
    | succ N ihL310 =>
      intro v306 H307 hIH307 hJH307 m308 m309 bv306 hmL310
      refine g_iload_n rfl ?_
      refine g_bipush (by decide) (fun v311 kv311 => ?_)
      refine g_if2_ge (fun c312 => ?_) (fun c312 => ?_)
      · exact g_ret ⟨rfl, hIH307, hJH307, m308, m309⟩
      · refine g_aload_n rfl ?_
        refine g_gfr hIH307 sm_0 rfl ?_
        refine g_iload_n rfl ?_
        refine g_aload_n rfl ?_
        refine g_gfr hIH307 sm_0 rfl ?_
        refine g_iload_n rfl ?_
        refine g_baload hIH307 sm_25 rfl (by omega) (fun v313 ev313 lv313 uv313 => ?_)
        refine g_if_ne (fun c314 => ?_) (fun c314 => ?_)
        · refine g_iconst (by decide) (fun v315 kv315 => ?_)
          refine g_goto ?_
          refine g_zastore hIH307 sm_25 (by omega) (by omega) (fun H316 eH316 hIH316 => ?_)
          have hJH316 : JM H316 := JM_sA (by decide) eH316 hJH307
          have m317 : ∀ a f, fZ H316 a f = fZ H a f := fun a f => (by rw [eH316, fZ_sA] : fZ H316 a f = fZ H307 a f).trans (m308 a f)
          have m318 : kpM H H316 := kpM_A m309 eH316 (by omega)
          refine g_iinc (l' := (fun v319 => [(0, .ref 0), (1, .int a1), (2, .int v319)])) rfl rfl (by decide) (by omega) (fun _ => rfl) (fun v319 ev319 => ?_)
          refine g_goto ?_
          exact ihL310 v319 H316 hIH316 hJH316 m317 m318 (by omega) (by omega)
        · refine g_aload_n rfl ?_
          refine g_iload_n rfl ?_
          refine g_iload_n rfl ?_
          refine g_invvi hIH307 sm_0 rfl rfl rfl rfl (s_186 v306 (by omega) a1 H307 hIH307 hJH307) (fun v322 H320 r321 => ?_)
          obtain ⟨rfl, bv322⟩ := r321
          refine g_if_eq (fun c323 => ?_) (fun c323 => ?_)
          · refine g_iconst (by decide) (fun v324 kv324 => ?_)
            refine g_nop ?_
            refine g_zastore hIH307 sm_25 (by omega) (by omega) (fun H325 eH325 hIH325 => ?_)
            have hJH325 : JM H325 := JM_sA (by decide) eH325 hJH307
            have m326 : ∀ a f, fZ H325 a f = fZ H a f := fun a f => (by rw [eH325, fZ_sA] : fZ H325 a f = fZ H307 a f).trans (m308 a f)
            have m327 : kpM H H325 := kpM_A m309 eH325 (by omega)
            refine g_iinc (l' := (fun v328 => [(0, .ref 0), (1, .int a1), (2, .int v328)])) rfl rfl (by decide) (by omega) (fun _ => rfl) (fun v328 ev328 => ?_)
            refine g_goto ?_
            exact ihL310 v328 H325 hIH325 hJH325 m326 m327 (by omega) (by omega)
          · refine g_nop ?_
            refine g_iconst (by decide) (fun v329 kv329 => ?_)
            refine g_goto ?_
            refine g_zastore hIH307 sm_25 (by omega) (by omega) (fun H330 eH330 hIH330 => ?_)
            have hJH330 : JM H330 := JM_sA (by decide) eH330 hJH307
            have m331 : ∀ a f, fZ H330 a f = fZ H a f := fun a f => (by rw [eH330, fZ_sA] : fZ H330 a f = fZ H307 a f).trans (m308 a f)
            have m332 : kpM H H330 := kpM_A m309 eH330 (by omega)
            refine g_iinc (l' := (fun v333 => [(0, .ref 0), (1, .int a1), (2, .int v333)])) rfl rfl (by decide) (by omega) (fun _ => rfl) (fun v333 ev333 => ?_)
            refine g_goto ?_
            exact ihL310 v333 H330 hIH330 hJH330 m331 m332 (by omega) (by omega)
  exact L310 _ v305 H hI hJ mkF mkfr (by omega) (Nat.lt_succ_self _)
set_option maxRecDepth 4000 in
set_option maxHeartbeats 4000000 in
/-- M.wereIn -/
theorem s_239 (a1 : Int32) (a2 : Int32) (a3 : Int32) (a4 : Int32) (H : mzH) (hI : gI SM H) (hJ : JN H) : gCall 239 [.ref 0, .int a1, .int a2, .int a3, .int a4] H (gRi (fun v H' => gI SM H' ∧ JN H' ∧ fZ H' 0 2 = fZ H 0 2 ∧ kpM H H')) := by
  obtain ⟨k0_2, ek0_2⟩ : ∃ z, z = fZ H 0 2 := ⟨_, rfl⟩
  have ik0_2 : k0_2.toInt = (fZ H 0 2).toInt := by rw [← ek0_2]
  have bk0_2 : 0 ≤ k0_2.toInt ∧ k0_2.toInt ≤ 900 := by rw [ek0_2]; exact fZ_of hI sm_0 rfl
  have mkfr : kpM H H := kpM_r
  refine gG_call [(0, .ref 0), (1, .int a1), (2, .int a2), (3, .int a3), (4, .int a4)] ⟨rfl, rfl, rfl, rfl, rfl, trivial⟩ ?_
  show gG 7 zB_239 (mzBlk zB_239 0) [(0, .ref 0), (1, .int a1), (2, .int a2), (3, .int a3), (4, .int a4)] [] H 0 0 _
  refine g_aload_n rfl ?_
  refine g_iconst (by decide) (fun v701 kv701 => ?_)
  refine g_pfi hI sm_0 rfl (gz_any _) (fun H702 eH702 hIH702 => ?_)
  have hJH702 : JN H702 := JN_sF eH702 hJ
  have e703 : k0_2 = fZ H702 0 2 := by rw [eH702, fZ_sF_ne (by decide)]; exact ek0_2
  have m704 : kpM H H702 := kpM_F mkfr eH702 (by omega)
  refine g_iload_n rfl ?_
  refine g_invti rfl rfl rfl (s_205 a1 H702 hIH702 hJH702) (fun v707 H705 r706 => ?_)
  obtain ⟨rfl, bv707, p708⟩ := r706
  refine g_if_eq (fun c709 => ?_) (fun c709 => ?_)
  · refine g_iconst (by decide) (fun v710 kv710 => ?_)
    exact g_iret ⟨_, rfl, hIH702, hJH702, (e703.symm.trans ek0_2), m704⟩
  · refine g_iload_n rfl ?_
    refine g_invti rfl rfl rfl (s_206 a2 H702 hIH702 hJH702) (fun v713 H711 r712 => ?_)
    obtain ⟨rfl, bv713⟩ := r712
    refine g_if_eq (fun c714 => ?_) (fun c714 => ?_)
    · refine g_iconst (by decide) (fun v715 kv715 => ?_)
      exact g_iret ⟨_, rfl, hIH702, hJH702, (e703.symm.trans ek0_2), m704⟩
    · refine g_iload_n rfl ?_
      refine g_invti rfl rfl rfl (s_206 a3 H702 hIH702 hJH702) (fun v718 H716 r717 => ?_)
      obtain ⟨rfl, bv718⟩ := r717
      refine g_if_eq (fun c719 => ?_) (fun c719 => ?_)
      · refine g_iconst (by decide) (fun v720 kv720 => ?_)
        exact g_iret ⟨_, rfl, hIH702, hJH702, (e703.symm.trans ek0_2), m704⟩
      · refine g_iload_n rfl ?_
        refine g_iload_n rfl ?_
        refine g_if2_lt (fun c721 => ?_) (fun c721 => ?_)
        · refine g_iconst (by decide) (fun v722 kv722 => ?_)
          exact g_iret ⟨_, rfl, hIH702, hJH702, (e703.symm.trans ek0_2), m704⟩
        · refine g_iload rfl ?_
          refine g_if_ge (fun c723 => ?_) (fun c723 => ?_)
          · refine g_aload_n rfl ?_
            refine g_iload_n rfl ?_
            refine g_invvv hIH702 sm_0 rfl rfl rfl rfl (s_200 a2 H702 hIH702 hJH702) (fun H724 r725 => ?_)
            obtain ⟨hIH724, hJH724, w726, m727⟩ := r725
            have e728 : k0_2 = fZ H724 0 2 := e703.trans w726.symm
            have m729 : kpM H H724 := kpM_t m704 m727
            refine g_iconst (by decide) (fun v730 kv730 => ?_)
            refine g_istore (l' := [(0, .ref 0), (1, .int a1), (2, .int a2), (3, .int a3), (4, .int a4), (5, .int v730)]) rfl rfl ?_
            refine g_nop ?_
            have L735 : ∀ (N : Nat) (v731 : Int32) (H732 : mzH), gI SM H732 → JM H732 → k0_2 = fZ H732 0 2 → kpM H H732 → (0 ≤ v731.toInt ∧ v731.toInt ≤ 40) → (40 - v731.toInt).toNat < N → gG 7 zB_239 (mzBlk zB_239 3) [(0, .ref 0), (1, .int a1), (2, .int a2), (3, .int a3), (4, .int a4), (5, .int v731)] [] H732 0 0 (gRi (fun v H' => gI SM H' ∧ JN H' ∧ fZ H' 0 2 = fZ H 0 2 ∧ kpM H H')) := by
              intro N
              induction N with
              | zero => intro v731 H732 hIH732 hJH732 e733 m734 bv731 hmL735; exact absurd hmL735 (Nat.not_lt_zero _)
              | succ N ihL735 =>
                intro v731 H732 hIH732 hJH732 e733 m734 bv731 hmL735
                refine g_iload rfl ?_
                refine g_bipush (by decide) (fun v736 kv736 => ?_)
                refine g_if2_ge (fun c737 => ?_) (fun c737 => ?_)
                · refine g_aload_n rfl ?_
                  refine g_iload_n rfl ?_
                  refine g_invvv hIH732 sm_0 rfl rfl rfl rfl (s_238 a1 H732 hIH732 hJH732) (fun H738 r739 => ?_)
                  obtain ⟨hIH738, hJH738, m740, m741⟩ := r739
                  have e742 : k0_2 = fZ H738 0 2 := e733.trans (m740 0 2).symm
                  have m743 : kpM H H738 := kpM_t m734 m741
                  refine g_iconst (by decide) (fun v744 kv744 => ?_)
                  refine g_istore (l' := [(0, .ref 0), (1, .int a1), (2, .int a2), (3, .int a3), (4, .int a4), (5, .int v744)]) rfl rfl ?_
                  refine g_nop ?_
                  have L749 : ∀ (N : Nat) (v745 : Int32) (H746 : mzH), gI SM H746 → JM H746 → k0_2 = fZ H746 0 2 → kpM H H746 → (0 ≤ v745.toInt ∧ v745.toInt ≤ 60) → (60 - v745.toInt).toNat < N → gG 7 zB_239 (mzBlk zB_239 5) [(0, .ref 0), (1, .int a1), (2, .int a2), (3, .int a3), (4, .int a4), (5, .int v745)] [] H746 0 0 (gRi (fun v H' => gI SM H' ∧ JN H' ∧ fZ H' 0 2 = fZ H 0 2 ∧ kpM H H')) := by
                    intro N
                    induction N with
                    | zero => intro v745 H746 hIH746 hJH746 e747 m748 bv745 hmL749; exact absurd hmL749 (Nat.not_lt_zero _)
                    | succ N ihL749 =>
                      intro v745 H746 hIH746 hJH746 e747 m748 bv745 hmL749
                      refine g_iload rfl ?_
                      refine g_aload_n rfl ?_
                      refine g_gfi hIH746 sm_0 rfl (fun v750 ev750 lv750 uv750 => ?_)
                      refine g_if2_ge (fun c751 => ?_) (fun c751 => ?_)
                      · refine g_aload_n rfl ?_
                        refine g_gfr hIH746 sm_0 rfl ?_
                        refine g_iload rfl ?_
                        refine g_invti rfl rfl rfl (s_236 a4 H746 hIH746 (JM_n hJH746)) (fun v754 H752 r753 => ?_)
                        obtain rfl := r753
                        exact g_iret ⟨_, rfl, hIH746, (JM_n hJH746), (e747.symm.trans ek0_2), m748⟩
                      · refine g_aload_n rfl ?_
                        refine g_gfr hIH746 sm_0 rfl ?_
                        refine g_aload_n rfl ?_
                        refine g_gfr hIH746 sm_0 rfl ?_
                        refine g_iload rfl ?_
                        refine g_iaload hIH746 sm_19 rfl (by omega) (fun v755 ev755 lv755 uv755 => ?_)
                        refine g_iaload hIH746 sm_18 rfl (by omega) (fun v756 ev756 lv756 uv756 => ?_)
                        refine g_istore (l' := [(0, .ref 0), (1, .int a1), (2, .int a2), (3, .int a3), (4, .int a4), (5, .int v745), (6, .int v756)]) rfl rfl ?_
                        refine g_iload rfl ?_
                        refine g_iload_n rfl ?_
                        refine g_if2_le (fun c757 => ?_) (fun c757 => ?_)
                        · refine g_iinc (l' := (fun v758 => [(0, .ref 0), (1, .int a1), (2, .int a2), (3, .int a3), (4, .int a4), (5, .int v758), (6, .int v756)])) rfl rfl (by decide) (by omega) (fun _ => rfl) (fun v758 ev758 => ?_)
                          refine g_goto ?_
                          refine gG_pick [0, 1, 2, 3, 4, 5] (l' := [(0, .ref 0), (1, .int a1), (2, .int a2), (3, .int a3), (4, .int a4), (5, .int v758)]) rfl ?_
                          exact ihL749 v758 H746 hIH746 hJH746 e747 m748 (by omega) (by omega)
                        · refine g_iload rfl ?_
                          refine g_iload_n rfl ?_
                          refine g_if2_le (fun c759 => ?_) (fun c759 => ?_)
                          · refine g_aload_n rfl ?_
                            refine g_aload_n rfl ?_
                            refine g_gfr hIH746 sm_0 rfl ?_
                            refine g_iload rfl ?_
                            refine g_ialoadk hIH746 sm_19 rfl (by omega) ev755 ?_
                            refine g_invvv hIH746 sm_0 rfl rfl rfl rfl (s_192 v755 (by omega) H746 hIH746 hJH746) (fun H760 r761 => ?_)
                            obtain ⟨hIH760, hJH760, m762, m763, m764, m765, m766⟩ := r761
                            have e767 : k0_2 = fZ H760 0 2 := e747.trans (m762 0 2).symm
                            have m768 : kpM H H760 := kpM_t m748 m766
                            refine g_aload_n rfl ?_
                            refine g_iload_n rfl ?_
                            refine g_invvv hIH760 sm_0 rfl rfl rfl rfl (s_238 a1 H760 hIH760 hJH760) (fun H769 r770 => ?_)
                            obtain ⟨hIH769, hJH769, m771, m772⟩ := r770
                            have e773 : k0_2 = fZ H769 0 2 := e767.trans (m771 0 2).symm
                            have m774 : kpM H H769 := kpM_t m768 m772
                            refine g_nop ?_
                            refine g_iinc (l' := (fun v775 => [(0, .ref 0), (1, .int a1), (2, .int a2), (3, .int a3), (4, .int a4), (5, .int v775), (6, .int v756)])) rfl rfl (by decide) (by omega) (fun _ => rfl) (fun v775 ev775 => ?_)
                            refine g_goto ?_
                            refine gG_pick [0, 1, 2, 3, 4, 5] (l' := [(0, .ref 0), (1, .int a1), (2, .int a2), (3, .int a3), (4, .int a4), (5, .int v775)]) rfl ?_
                            exact ihL749 v775 H769 hIH769 hJH769 e773 m774 (by omega) (by omega)
                          · refine g_goto ?_
                            refine g_iinc (l' := (fun v776 => [(0, .ref 0), (1, .int a1), (2, .int a2), (3, .int a3), (4, .int a4), (5, .int v776), (6, .int v756)])) rfl rfl (by decide) (by omega) (fun _ => rfl) (fun v776 ev776 => ?_)
                            refine g_goto ?_
                            refine gG_pick [0, 1, 2, 3, 4, 5] (l' := [(0, .ref 0), (1, .int a1), (2, .int a2), (3, .int a3), (4, .int a4), (5, .int v776)]) rfl ?_
                            exact ihL749 v776 H746 hIH746 hJH746 e747 m748 (by omega) (by omega)
                  exact L749 _ v744 H738 hIH738 hJH738 e742 m743 (by omega) (Nat.lt_succ_self _)
                · refine g_aload_n rfl ?_
                  refine g_gfr hIH732 sm_0 rfl ?_
                  refine g_iload rfl ?_
                  refine g_iconst (by decide) (fun v777 kv777 => ?_)
                  refine g_zastore hIH732 sm_25 (by omega) (by omega) (fun H778 eH778 hIH778 => ?_)
                  have hJH778 : JM H778 := JM_sA (by decide) eH778 hJH732
                  have e779 : k0_2 = fZ H778 0 2 := by rw [eH778, fZ_sA]; exact e733
                  have m780 : kpM H H778 := kpM_A m734 eH778 (by omega)
                  refine g_iinc (l' := (fun v781 => [(0, .ref 0), (1, .int a1), (2, .int a2), (3, .int a3), (4, .int a4), (5, .int v781)])) rfl rfl (by decide) (by omega) (fun _ => rfl) (fun v781 ev781 => ?_)
                  refine g_goto ?_
                  exact ihL735 v781 H778 hIH778 hJH778 e779 m780 (by omega) (by omega)
            exact L735 _ v730 H724 hIH724 hJH724 e728 m729 (by omega) (Nat.lt_succ_self _)
          · refine g_nop ?_
            refine g_iconst (by decide) (fun v782 kv782 => ?_)
            exact g_iret ⟨_, rfl, hIH702, hJH702, (e703.symm.trans ek0_2), m704⟩
set_option maxRecDepth 4000 in
set_option maxHeartbeats 4000000 in
/-- M.most -/
theorem s_240 (a1 : Int32) (H : mzH) (hI : gI SM H) (hJ : JN H) : gCall 240 [.ref 0, .int a1] H (gRi (fun v H' => gI SM H' ∧ JN H' ∧ fZ H' 0 2 = fZ H 0 2 ∧ kpM H H')) := by
  obtain ⟨k0_2, ek0_2⟩ : ∃ z, z = fZ H 0 2 := ⟨_, rfl⟩
  have ik0_2 : k0_2.toInt = (fZ H 0 2).toInt := by rw [← ek0_2]
  have bk0_2 : 0 ≤ k0_2.toInt ∧ k0_2.toInt ≤ 900 := by rw [ek0_2]; exact fZ_of hI sm_0 rfl
  have mkfr : kpM H H := kpM_r
  refine gG_call [(0, .ref 0), (1, .int a1)] ⟨rfl, rfl, trivial⟩ ?_
  show gG 4 zB_240 (mzBlk zB_240 0) [(0, .ref 0), (1, .int a1)] [] H 0 0 _
  refine g_aload_n rfl ?_
  refine g_iconst (by decide) (fun v497 kv497 => ?_)
  refine g_pfi hI sm_0 rfl (gz_any _) (fun H498 eH498 hIH498 => ?_)
  have hJH498 : JN H498 := JN_sF eH498 hJ
  have e499 : k0_2 = fZ H498 0 2 := by rw [eH498, fZ_sF_ne (by decide)]; exact ek0_2
  have m500 : kpM H H498 := kpM_F mkfr eH498 (by omega)
  refine g_iload_n rfl ?_
  refine g_invti rfl rfl rfl (s_205 a1 H498 hIH498 hJH498) (fun v503 H501 r502 => ?_)
  obtain ⟨rfl, bv503, p504⟩ := r502
  refine g_if_ne (fun c505 => ?_) (fun c505 => ?_)
  · refine g_aload_n rfl ?_
    refine g_invvv hIH498 sm_0 rfl rfl rfl rfl (s_182 H498 hIH498 hJH498) (fun H506 r507 => ?_)
    obtain ⟨hIH506, hJH506, m508, m509, m510, p511⟩ := r507
    have e512 : k0_2 = fZ H506 0 2 := e499.trans (m508 0 2).symm
    have m513 : kpM H H506 := kpM_t m500 m510
    refine g_aload_n rfl ?_
    refine g_invvv hIH506 sm_0 rfl rfl rfl rfl (s_184 H506 hIH506 hJH506) (fun H514 r515 => ?_)
    obtain ⟨hIH514, hJH514, w516, w517, w518, w519, w520, m521, m522, m523, p524⟩ := r515
    have e525 : k0_2 = fZ H514 0 2 := e512.trans w516.symm
    have m526 : kpM H H514 := kpM_t m513 m523
    refine g_iconst (by decide) (fun v527 kv527 => ?_)
    refine g_istore_n (l' := [(0, .ref 0), (1, .int a1), (2, .int v527)]) rfl rfl ?_
    refine g_iconst (by decide) (fun v528 kv528 => ?_)
    refine g_istore_n (l' := [(0, .ref 0), (1, .int a1), (2, .int v527), (3, .int v528)]) rfl rfl ?_
    refine g_nop ?_
    have L534 : ∀ (N : Nat) (v529 : Int32) (v530 : Int32) (H531 : mzH), gI SM H531 → JM H531 → k0_2 = fZ H531 0 2 → kpM H H531 → (0 ≤ v530.toInt ∧ v530.toInt ≤ 60) → (60 - v530.toInt).toNat < N → gG 4 zB_240 (mzBlk zB_240 2) [(0, .ref 0), (1, .int a1), (2, .int v529), (3, .int v530)] [] H531 0 0 (gRi (fun v H' => gI SM H' ∧ JN H' ∧ fZ H' 0 2 = fZ H 0 2 ∧ kpM H H')) := by
      intro N
      induction N with
      | zero => intro v529 v530 H531 hIH531 hJH531 e532 m533 bv530 hmL534; exact absurd hmL534 (Nat.not_lt_zero _)
      | succ N ihL534 =>
        intro v529 v530 H531 hIH531 hJH531 e532 m533 bv530 hmL534
        refine g_iload_n rfl ?_
        refine g_aload_n rfl ?_
        refine g_gfi hIH531 sm_0 rfl (fun v535 ev535 lv535 uv535 => ?_)
        refine g_if2_ge (fun c536 => ?_) (fun c536 => ?_)
        · refine g_aload_n rfl ?_
          refine g_gfr hIH531 sm_0 rfl ?_
          refine g_iload_n rfl ?_
          refine g_baload hIH531 sm_7 rfl (by omega) (fun v537 ev537 lv537 uv537 => ?_)
          refine g_if_eq (fun c538 => ?_) (fun c538 => ?_)
          · refine g_bipush (by decide) (fun v539 kv539 => ?_)
            refine g_nop ?_
            exact g_iret ⟨_, rfl, hIH531, (JM_n hJH531), (e532.symm.trans ek0_2), m533⟩
          · refine g_iload_n rfl ?_
            refine g_goto ?_
            exact g_iret ⟨_, rfl, hIH531, (JM_n hJH531), (e532.symm.trans ek0_2), m533⟩
        · refine g_aload_n rfl ?_
          refine g_aload_n rfl ?_
          refine g_gfr hIH531 sm_0 rfl ?_
          refine g_iload_n rfl ?_
          refine g_iaload hIH531 sm_19 rfl (by omega) (fun v540 ev540 lv540 uv540 => ?_)
          refine g_invvv hIH531 sm_0 rfl rfl rfl rfl (s_192 v540 (by omega) H531 hIH531 hJH531) (fun H541 r542 => ?_)
          obtain ⟨hIH541, hJH541, m543, m544, m545, m546, m547⟩ := r542
          have e548 : k0_2 = fZ H541 0 2 := e532.trans (m543 0 2).symm
          have m549 : kpM H H541 := kpM_t m533 m547
          refine g_aload_n rfl ?_
          refine g_iload_n rfl ?_
          refine g_invvi hIH541 sm_0 rfl rfl rfl rfl (s_207 a1 H541 hIH541 hJH541) (fun v552 H550 r551 => ?_)
          obtain rfl := r551
          refine g_iload_n rfl ?_
          refine g_if2_le (fun c553 => ?_) (fun c553 => ?_)
          · refine g_iload_n rfl ?_
            refine g_nop ?_
            refine g_istore_n (l' := [(0, .ref 0), (1, .int a1), (2, .int v529), (3, .int v530)]) rfl rfl ?_
            refine g_iinc (l' := (fun v554 => [(0, .ref 0), (1, .int a1), (2, .int v529), (3, .int v554)])) rfl rfl (by decide) (by omega) (fun _ => rfl) (fun v554 ev554 => ?_)
            refine g_goto ?_
            exact ihL534 v529 v554 H541 hIH541 hJH541 e548 m549 (by omega) (by omega)
          · refine g_aload_n rfl ?_
            refine g_iload_n rfl ?_
            refine g_invvi hIH541 sm_0 rfl rfl rfl rfl (s_207 a1 H541 hIH541 hJH541) (fun v557 H555 r556 => ?_)
            obtain rfl := r556
            refine g_goto ?_
            refine g_istore_n (l' := [(0, .ref 0), (1, .int a1), (2, .int v557), (3, .int v530)]) rfl rfl ?_
            refine g_iinc (l' := (fun v558 => [(0, .ref 0), (1, .int a1), (2, .int v557), (3, .int v558)])) rfl rfl (by decide) (by omega) (fun _ => rfl) (fun v558 ev558 => ?_)
            refine g_goto ?_
            exact ihL534 v557 v558 H541 hIH541 hJH541 e548 m549 (by omega) (by omega)
    exact L534 _ v527 v528 H514 hIH514 hJH514 e525 m526 (by omega) (Nat.lt_succ_self _)
  · refine g_iconst (by decide) (fun v559 kv559 => ?_)
    exact g_iret ⟨_, rfl, hIH498, hJH498, (e499.symm.trans ek0_2), m500⟩
set_option maxRecDepth 4000 in
set_option maxHeartbeats 4000000 in
/-- M.bitsIn -/
theorem s_241 (a1 : Int32) (H : mzH) (hI : gI SM H) (hJ : JM H) : gCall 241 [.ref 0, .int a1] H (gRl (fun _ H' => H = H')) := by
  refine gG_call [(0, .ref 0), (1, .int a1)] ⟨rfl, rfl, trivial⟩ ?_
  show gG 5 zB_241 (mzBlk zB_241 0) [(0, .ref 0), (1, .int a1)] [] H 0 0 _
  refine g_lconst (fun v177 _ => ?_)
  refine g_lstore_n (l' := [(0, .ref 0), (1, .int a1), (2, .long v177)]) rfl rfl ?_
  refine g_iconst (by decide) (fun v178 kv178 => ?_)
  refine g_istore (l' := [(0, .ref 0), (1, .int a1), (2, .long v177), (4, .int v178)]) rfl rfl ?_
  refine g_nop ?_
  have L181 : ∀ (N : Nat) (v179 : Int64) (v180 : Int32), (0 ≤ v180.toInt ∧ v180.toInt ≤ 40) → (40 - v180.toInt).toNat < N → gG 5 zB_241 (mzBlk zB_241 1) [(0, .ref 0), (1, .int a1), (2, .long v179), (4, .int v180)] [] H 0 0 (gRl (fun _ H' => H = H')) := by
    intro N
    induction N with
    | zero => intro v179 v180 bv180 hmL181; exact absurd hmL181 (Nat.not_lt_zero _)
    | succ N ihL181 =>
      intro v179 v180 bv180 hmL181
      refine g_iload rfl ?_
      refine g_bipush (by decide) (fun v182 kv182 => ?_)
      refine g_if2_ge (fun c183 => ?_) (fun c183 => ?_)
      · refine g_lload_n rfl ?_
        exact g_lret ⟨_, rfl, rfl⟩
      · refine g_aload_n rfl ?_
        refine g_iload rfl ?_
        refine g_iload_n rfl ?_
        refine g_invvi hI sm_0 rfl rfl rfl rfl (s_186 v180 (by omega) a1 H hI hJ) (fun v186 H184 r185 => ?_)
        obtain ⟨rfl, bv186⟩ := r185
        refine g_if_eq (fun c187 => ?_) (fun c187 => ?_)
        · refine g_iinc (l' := (fun v188 => [(0, .ref 0), (1, .int a1), (2, .long v179), (4, .int v188)])) rfl rfl (by decide) (by omega) (fun _ => rfl) (fun v188 ev188 => ?_)
          refine g_goto ?_
          exact ihL181 v179 v188 (by omega) (by omega)
        · refine g_lload_n rfl ?_
          refine g_lconst (fun v189 _ => ?_)
          refine g_iload rfl ?_
          refine g_lshl (fun v190 _ => ?_)
          refine g_lor (fun v191 _ => ?_)
          refine g_lstore_n (l' := [(0, .ref 0), (1, .int a1), (2, .long v191), (4, .int v180)]) rfl rfl ?_
          refine g_nop ?_
          refine g_iinc (l' := (fun v192 => [(0, .ref 0), (1, .int a1), (2, .long v191), (4, .int v192)])) rfl rfl (by decide) (by omega) (fun _ => rfl) (fun v192 ev192 => ?_)
          refine g_goto ?_
          exact ihL181 v191 v192 (by omega) (by omega)
  exact L181 _ v177 v178 (by omega) (Nat.lt_succ_self _)
set_option maxRecDepth 4000 in
set_option maxHeartbeats 4000000 in
/-- M.still -/
theorem s_242 (a1 : Int32) (a2 : Int32) (H : mzH) (hI : gI SM H) (hJ : JN H) : gCall 242 [.ref 0, .int a1, .int a2] H (gRi (fun v H' => gI SM H' ∧ JN H' ∧ fZ H' 0 2 = fZ H 0 2 ∧ kpM H H')) := by
  obtain ⟨k0_2, ek0_2⟩ : ∃ z, z = fZ H 0 2 := ⟨_, rfl⟩
  have ik0_2 : k0_2.toInt = (fZ H 0 2).toInt := by rw [← ek0_2]
  have bk0_2 : 0 ≤ k0_2.toInt ∧ k0_2.toInt ≤ 900 := by rw [ek0_2]; exact fZ_of hI sm_0 rfl
  have mkfr : kpM H H := kpM_r
  refine gG_call [(0, .ref 0), (1, .int a1), (2, .int a2)] ⟨rfl, rfl, rfl, trivial⟩ ?_
  show gG 8 zB_242 (mzBlk zB_242 0) [(0, .ref 0), (1, .int a1), (2, .int a2)] [] H 0 0 _
  refine g_aload_n rfl ?_
  refine g_iconst (by decide) (fun v839 kv839 => ?_)
  refine g_pfi hI sm_0 rfl (gz_any _) (fun H840 eH840 hIH840 => ?_)
  have hJH840 : JN H840 := JN_sF eH840 hJ
  have e841 : k0_2 = fZ H840 0 2 := by rw [eH840, fZ_sF_ne (by decide)]; exact ek0_2
  have m842 : kpM H H840 := kpM_F mkfr eH840 (by omega)
  refine g_iload_n rfl ?_
  refine g_invti rfl rfl rfl (s_205 a1 H840 hIH840 hJH840) (fun v845 H843 r844 => ?_)
  obtain ⟨rfl, bv845, p846⟩ := r844
  refine g_if_eq (fun c847 => ?_) (fun c847 => ?_)
  · refine g_iconst (by decide) (fun v848 kv848 => ?_)
    exact g_iret ⟨_, rfl, hIH840, hJH840, (e841.symm.trans ek0_2), m842⟩
  · refine g_iload_n rfl ?_
    refine g_invti rfl rfl rfl (s_206 a2 H840 hIH840 hJH840) (fun v851 H849 r850 => ?_)
    obtain ⟨rfl, bv851⟩ := r850
    refine g_if_ne (fun c852 => ?_) (fun c852 => ?_)
    · refine g_aload_n rfl ?_
      refine g_invvv hIH840 sm_0 rfl rfl rfl rfl (s_182 H840 hIH840 hJH840) (fun H853 r854 => ?_)
      obtain ⟨hIH853, hJH853, m855, m856, m857, p858⟩ := r854
      have e859 : k0_2 = fZ H853 0 2 := e841.trans (m855 0 2).symm
      have m860 : kpM H H853 := kpM_t m842 m857
      refine g_aload_n rfl ?_
      refine g_invvv hIH853 sm_0 rfl rfl rfl rfl (s_184 H853 hIH853 hJH853) (fun H861 r862 => ?_)
      obtain ⟨hIH861, hJH861, w863, w864, w865, w866, w867, m868, m869, m870, p871⟩ := r862
      have e872 : k0_2 = fZ H861 0 2 := e859.trans w863.symm
      have m873 : kpM H H861 := kpM_t m860 m870
      refine g_bipush (by decide) (fun v874 kv874 => ?_)
      refine g_istore_n (l' := [(0, .ref 0), (1, .int a1), (2, .int a2), (3, .int v874)]) rfl rfl ?_
      refine g_iconst (by decide) (fun v875 kv875 => ?_)
      refine g_istore (l' := [(0, .ref 0), (1, .int a1), (2, .int a2), (3, .int v874), (4, .int v875)]) rfl rfl ?_
      refine g_nop ?_
      have L881 : ∀ (N : Nat) (v876 : Int32) (v877 : Int32) (H878 : mzH), gI SM H878 → JM H878 → k0_2 = fZ H878 0 2 → kpM H H878 → (0 ≤ v877.toInt ∧ v877.toInt ≤ 60) → (60 - v877.toInt).toNat < N → gG 8 zB_242 (mzBlk zB_242 3) [(0, .ref 0), (1, .int a1), (2, .int a2), (3, .int v876), (4, .int v877)] [] H878 0 0 (gRi (fun v H' => gI SM H' ∧ JN H' ∧ fZ H' 0 2 = fZ H 0 2 ∧ kpM H H')) := by
        intro N
        induction N with
        | zero => intro v876 v877 H878 hIH878 hJH878 e879 m880 bv877 hmL881; exact absurd hmL881 (Nat.not_lt_zero _)
        | succ N ihL881 =>
          intro v876 v877 H878 hIH878 hJH878 e879 m880 bv877 hmL881
          refine g_iload rfl ?_
          refine g_aload_n rfl ?_
          refine g_gfi hIH878 sm_0 rfl (fun v882 ev882 lv882 uv882 => ?_)
          refine g_if2_ge (fun c883 => ?_) (fun c883 => ?_)
          · refine g_aload_n rfl ?_
            refine g_gfr hIH878 sm_0 rfl ?_
            refine g_iload_n rfl ?_
            refine g_baload hIH878 sm_7 rfl (by omega) (fun v884 ev884 lv884 uv884 => ?_)
            refine g_if_ne (fun c885 => ?_) (fun c885 => ?_)
            · refine g_aload_n rfl ?_
              refine g_gfr hIH878 sm_0 rfl ?_
              refine g_iload_n rfl ?_
              refine g_baload hIH878 sm_16 rfl (by omega) (fun v886 ev886 lv886 uv886 => ?_)
              refine g_if_eq (fun c887 => ?_) (fun c887 => ?_)
              · refine g_iload_n rfl ?_
                refine g_nop ?_
                exact g_iret ⟨_, rfl, hIH878, (JM_n hJH878), (e879.symm.trans ek0_2), m880⟩
              · refine g_bipush (by decide) (fun v888 kv888 => ?_)
                refine g_goto ?_
                exact g_iret ⟨_, rfl, hIH878, (JM_n hJH878), (e879.symm.trans ek0_2), m880⟩
            · refine g_bipush (by decide) (fun v889 kv889 => ?_)
              refine g_goto ?_
              exact g_iret ⟨_, rfl, hIH878, (JM_n hJH878), (e879.symm.trans ek0_2), m880⟩
          · refine g_aload_n rfl ?_
            refine g_gfr hIH878 sm_0 rfl ?_
            refine g_aload_n rfl ?_
            refine g_gfr hIH878 sm_0 rfl ?_
            refine g_iload rfl ?_
            refine g_iaload hIH878 sm_19 rfl (by omega) (fun v890 ev890 lv890 uv890 => ?_)
            refine g_iaload hIH878 sm_18 rfl (by omega) (fun v891 ev891 lv891 uv891 => ?_)
            refine g_iload_n rfl ?_
            refine g_if2_gt (fun c892 => ?_) (fun c892 => ?_)
            · refine g_aload_n rfl ?_
              refine g_gfr hIH878 sm_0 rfl ?_
              refine g_iload_n rfl ?_
              refine g_baload hIH878 sm_7 rfl (by omega) (fun v893 ev893 lv893 uv893 => ?_)
              refine g_if_ne (fun c894 => ?_) (fun c894 => ?_)
              · refine g_aload_n rfl ?_
                refine g_gfr hIH878 sm_0 rfl ?_
                refine g_iload_n rfl ?_
                refine g_baload hIH878 sm_16 rfl (by omega) (fun v895 ev895 lv895 uv895 => ?_)
                refine g_if_eq (fun c896 => ?_) (fun c896 => ?_)
                · refine g_iload_n rfl ?_
                  refine g_nop ?_
                  exact g_iret ⟨_, rfl, hIH878, (JM_n hJH878), (e879.symm.trans ek0_2), m880⟩
                · refine g_bipush (by decide) (fun v897 kv897 => ?_)
                  refine g_goto ?_
                  exact g_iret ⟨_, rfl, hIH878, (JM_n hJH878), (e879.symm.trans ek0_2), m880⟩
              · refine g_bipush (by decide) (fun v898 kv898 => ?_)
                refine g_goto ?_
                exact g_iret ⟨_, rfl, hIH878, (JM_n hJH878), (e879.symm.trans ek0_2), m880⟩
            · refine g_aload_n rfl ?_
              refine g_gfr hIH878 sm_0 rfl ?_
              refine g_iload_n rfl ?_
              refine g_baload hIH878 sm_7 rfl (by omega) (fun v899 ev899 lv899 uv899 => ?_)
              refine g_istore (l' := [(0, .ref 0), (1, .int a1), (2, .int a2), (3, .int v876), (4, .int v877), (5, .int v899)]) rfl rfl ?_
              refine g_aload_n rfl ?_
              refine g_iload_n rfl ?_
              refine g_invvl hIH878 sm_0 rfl rfl rfl rfl (s_241 a1 H878 hIH878 hJH878) (fun v902 H900 r901 => ?_)
              obtain rfl := r901
              refine g_lstore (l' := [(0, .ref 0), (1, .int a1), (2, .int a2), (3, .int v876), (4, .int v877), (5, .int v899), (6, .long v902)]) rfl rfl ?_
              refine g_aload_n rfl ?_
              refine g_aload_n rfl ?_
              refine g_gfr hIH878 sm_0 rfl ?_
              refine g_iload rfl ?_
              refine g_ialoadk hIH878 sm_19 rfl (by omega) ev890 ?_
              refine g_invvv hIH878 sm_0 rfl rfl rfl rfl (s_192 v890 (by omega) H878 hIH878 hJH878) (fun H903 r904 => ?_)
              obtain ⟨hIH903, hJH903, m905, m906, m907, m908, m909⟩ := r904
              have e910 : k0_2 = fZ H903 0 2 := e879.trans (m905 0 2).symm
              have m911 : kpM H H903 := kpM_t m880 m909
              refine g_aload_n rfl ?_
              refine g_gfr hIH903 sm_0 rfl ?_
              refine g_iload_n rfl ?_
              refine g_baload hIH903 sm_7 rfl (by omega) (fun v912 ev912 lv912 uv912 => ?_)
              refine g_if_eq (fun c913 => ?_) (fun c913 => ?_)
              · refine g_iinc (l' := (fun v914 => [(0, .ref 0), (1, .int a1), (2, .int a2), (3, .int v876), (4, .int v914), (5, .int v899), (6, .long v902)])) rfl rfl (by decide) (by omega) (fun _ => rfl) (fun v914 ev914 => ?_)
                refine g_goto ?_
                refine gG_pick [0, 1, 2, 3, 4] (l' := [(0, .ref 0), (1, .int a1), (2, .int a2), (3, .int v876), (4, .int v914)]) rfl ?_
                exact ihL881 v876 v914 H903 hIH903 hJH903 e910 m911 (by omega) (by omega)
              · refine g_iload rfl ?_
                refine g_if_eq (fun c915 => ?_) (fun c915 => ?_)
                · refine g_aload_n rfl ?_
                  refine g_gfr hIH903 sm_0 rfl ?_
                  refine g_aload_n rfl ?_
                  refine g_gfr hIH903 sm_0 rfl ?_
                  refine g_iload rfl ?_
                  refine g_iaload hIH903 sm_19 rfl (by omega) (fun v916 ev916 lv916 uv916 => ?_)
                  refine g_iaload hIH903 sm_18 rfl (by omega) (fun v917 ev917 lv917 uv917 => ?_)
                  refine g_istore_n (l' := [(0, .ref 0), (1, .int a1), (2, .int a2), (3, .int v917), (4, .int v877), (5, .int v899), (6, .long v902)]) rfl rfl ?_
                  refine g_nop ?_
                  refine g_iinc (l' := (fun v918 => [(0, .ref 0), (1, .int a1), (2, .int a2), (3, .int v917), (4, .int v918), (5, .int v899), (6, .long v902)])) rfl rfl (by decide) (by omega) (fun _ => rfl) (fun v918 ev918 => ?_)
                  refine g_goto ?_
                  refine gG_pick [0, 1, 2, 3, 4] (l' := [(0, .ref 0), (1, .int a1), (2, .int a2), (3, .int v917), (4, .int v918)]) rfl ?_
                  exact ihL881 v917 v918 H903 hIH903 hJH903 e910 m911 (by omega) (by omega)
                · refine g_aload_n rfl ?_
                  refine g_iload_n rfl ?_
                  refine g_invvl hIH903 sm_0 rfl rfl rfl rfl (s_241 a1 H903 hIH903 hJH903) (fun v921 H919 r920 => ?_)
                  obtain rfl := r920
                  refine g_lload rfl ?_
                  refine g_lcmp (fun v922 _ => ?_)
                  refine g_if_eq (fun c923 => ?_) (fun c923 => ?_)
                  · refine g_iinc (l' := (fun v924 => [(0, .ref 0), (1, .int a1), (2, .int a2), (3, .int v876), (4, .int v924), (5, .int v899), (6, .long v902)])) rfl rfl (by decide) (by omega) (fun _ => rfl) (fun v924 ev924 => ?_)
                    refine g_goto ?_
                    refine gG_pick [0, 1, 2, 3, 4] (l' := [(0, .ref 0), (1, .int a1), (2, .int a2), (3, .int v876), (4, .int v924)]) rfl ?_
                    exact ihL881 v876 v924 H903 hIH903 hJH903 e910 m911 (by omega) (by omega)
                  · refine g_nop ?_
                    refine g_aload_n rfl ?_
                    refine g_gfr hIH903 sm_0 rfl ?_
                    refine g_aload_n rfl ?_
                    refine g_gfr hIH903 sm_0 rfl ?_
                    refine g_iload rfl ?_
                    refine g_iaload hIH903 sm_19 rfl (by omega) (fun v925 ev925 lv925 uv925 => ?_)
                    refine g_iaload hIH903 sm_18 rfl (by omega) (fun v926 ev926 lv926 uv926 => ?_)
                    refine g_istore_n (l' := [(0, .ref 0), (1, .int a1), (2, .int a2), (3, .int v926), (4, .int v877), (5, .int v899), (6, .long v902)]) rfl rfl ?_
                    refine g_nop ?_
                    refine g_iinc (l' := (fun v927 => [(0, .ref 0), (1, .int a1), (2, .int a2), (3, .int v926), (4, .int v927), (5, .int v899), (6, .long v902)])) rfl rfl (by decide) (by omega) (fun _ => rfl) (fun v927 ev927 => ?_)
                    refine g_goto ?_
                    refine gG_pick [0, 1, 2, 3, 4] (l' := [(0, .ref 0), (1, .int a1), (2, .int a2), (3, .int v926), (4, .int v927)]) rfl ?_
                    exact ihL881 v926 v927 H903 hIH903 hJH903 e910 m911 (by omega) (by omega)
      exact L881 _ v874 v875 H861 hIH861 hJH861 e872 m873 (by omega) (Nat.lt_succ_self _)
    · refine g_nop ?_
      refine g_iconst (by decide) (fun v928 kv928 => ?_)
      exact g_iret ⟨_, rfl, hIH840, hJH840, (e841.symm.trans ek0_2), m842⟩
set_option maxRecDepth 4000 in
set_option maxHeartbeats 4000000 in
/-- M.components -/
theorem s_243 (a1 : Int32) (a2 : Int32) (H : mzH) (hI : gI SM H) (hJ : JN H) : gCall 243 [.ref 0, .int a1, .int a2] H (gRi (fun v H' => gI SM H' ∧ JN H' ∧ fZ H' 0 2 = fZ H 0 2 ∧ kpM H H')) := by
  obtain ⟨k0_2, ek0_2⟩ : ∃ z, z = fZ H 0 2 := ⟨_, rfl⟩
  have ik0_2 : k0_2.toInt = (fZ H 0 2).toInt := by rw [← ek0_2]
  have bk0_2 : 0 ≤ k0_2.toInt ∧ k0_2.toInt ≤ 900 := by rw [ek0_2]; exact fZ_of hI sm_0 rfl
  have mkfr : kpM H H := kpM_r
  refine gG_call [(0, .ref 0), (1, .int a1), (2, .int a2)] ⟨rfl, rfl, rfl, trivial⟩ ?_
  show gG 6 zB_243 (mzBlk zB_243 0) [(0, .ref 0), (1, .int a1), (2, .int a2)] [] H 0 0 _
  refine g_aload_n rfl ?_
  refine g_iconst (by decide) (fun v1503 kv1503 => ?_)
  refine g_pfi hI sm_0 rfl (gz_any _) (fun H1504 eH1504 hIH1504 => ?_)
  have hJH1504 : JN H1504 := JN_sF eH1504 hJ
  have e1505 : k0_2 = fZ H1504 0 2 := by rw [eH1504, fZ_sF_ne (by decide)]; exact ek0_2
  have m1506 : kpM H H1504 := kpM_F mkfr eH1504 (by omega)
  refine g_aload_n rfl ?_
  refine g_iload_n rfl ?_
  refine g_invvi hIH1504 sm_0 rfl rfl rfl rfl (s_210 a1 H1504 hIH1504 hJH1504) (fun v1509 H1507 r1508 => ?_)
  obtain ⟨rfl, bv1509, p1510⟩ := r1508
  refine g_if_eq (fun c1511 => ?_) (fun c1511 => ?_)
  · refine g_iconst (by decide) (fun v1512 kv1512 => ?_)
    exact g_iret ⟨_, rfl, hIH1504, hJH1504, (e1505.symm.trans ek0_2), m1506⟩
  · refine g_iload_n rfl ?_
    refine g_invti rfl rfl rfl (s_206 a2 H1504 hIH1504 hJH1504) (fun v1515 H1513 r1514 => ?_)
    obtain ⟨rfl, bv1515⟩ := r1514
    refine g_if_ne (fun c1516 => ?_) (fun c1516 => ?_)
    · refine g_aload_n rfl ?_
      refine g_iload_n rfl ?_
      refine g_invvv hIH1504 sm_0 rfl rfl rfl rfl (s_200 a2 H1504 hIH1504 hJH1504) (fun H1517 r1518 => ?_)
      obtain ⟨hIH1517, hJH1517, w1519, m1520⟩ := r1518
      have e1521 : k0_2 = fZ H1517 0 2 := e1505.trans w1519.symm
      have m1522 : kpM H H1517 := kpM_t m1506 m1520
      refine g_iconst (by decide) (fun v1523 kv1523 => ?_)
      refine g_istore_n (l' := [(0, .ref 0), (1, .int a1), (2, .int a2), (3, .int v1523)]) rfl rfl ?_
      refine g_iconst (by decide) (fun v1524 kv1524 => ?_)
      refine g_istore (l' := [(0, .ref 0), (1, .int a1), (2, .int a2), (3, .int v1523), (4, .int v1524)]) rfl rfl ?_
      refine g_nop ?_
      have L1527 : ∀ (N : Nat) (v1525 : Int32) (v1526 : Int32), (0 ≤ v1526.toInt ∧ v1526.toInt ≤ 40) → (40 - v1526.toInt).toNat < N → gG 6 zB_243 (mzBlk zB_243 3) [(0, .ref 0), (1, .int a1), (2, .int a2), (3, .int v1525), (4, .int v1526)] [] H1517 0 0 (gRi (fun v H' => gI SM H' ∧ JN H' ∧ fZ H' 0 2 = fZ H 0 2 ∧ kpM H H')) := by
        intro N
        induction N with
        | zero => intro v1525 v1526 bv1526 hmL1527; exact absurd hmL1527 (Nat.not_lt_zero _)
        | succ N ihL1527 =>
          intro v1525 v1526 bv1526 hmL1527
          refine g_iload rfl ?_
          refine g_bipush (by decide) (fun v1528 kv1528 => ?_)
          refine g_if2_ge (fun c1529 => ?_) (fun c1529 => ?_)
          · refine g_iload_n rfl ?_
            exact g_iret ⟨_, rfl, hIH1517, (JM_n hJH1517), (e1521.symm.trans ek0_2), m1522⟩
          · refine g_aload_n rfl ?_
            refine g_gfr hIH1517 sm_0 rfl ?_
            refine g_iload rfl ?_
            refine g_iaload hIH1517 sm_9 rfl (by omega) (fun v1530 ev1530 lv1530 uv1530 => ?_)
            have qv1530 := JM_in hJH1517 (by omega) ev1530
            refine g_bipush (by decide) (fun v1531 kv1531 => ?_)
            refine g_if2_eq (fun c1532 => ?_) (fun c1532 => ?_)
            · refine g_iconst (by decide) (fun v1533 kv1533 => ?_)
              refine g_goto ?_
              refine g_istore (l' := [(0, .ref 0), (1, .int a1), (2, .int a2), (3, .int v1525), (4, .int v1526), (5, .int v1533)]) rfl rfl ?_
              refine g_iload_n rfl ?_
              refine g_aload_n rfl ?_
              refine g_iload rfl ?_
              refine g_invvi hIH1517 sm_0 rfl rfl rfl rfl (s_201 v1526 (by omega) H1517 hIH1517 hJH1517) (fun v1536 H1534 r1535 => ?_)
              obtain ⟨rfl, bv1536⟩ := r1535
              refine g_iload_n rfl ?_
              refine g_if2_ne (fun c1537 => ?_) (fun c1537 => ?_)
              · refine g_iconst (by decide) (fun v1538 kv1538 => ?_)
                refine g_nop ?_
                refine g_iadd (by have := gz_any v1525; omega) (fun v1539 ev1539 => ?_)
                refine g_istore_n (l' := [(0, .ref 0), (1, .int a1), (2, .int a2), (3, .int v1539), (4, .int v1526), (5, .int v1533)]) rfl rfl ?_
                refine g_iinc (l' := (fun v1540 => [(0, .ref 0), (1, .int a1), (2, .int a2), (3, .int v1539), (4, .int v1540), (5, .int v1533)])) rfl rfl (by decide) (by omega) (fun _ => rfl) (fun v1540 ev1540 => ?_)
                refine g_goto ?_
                refine gG_pick [0, 1, 2, 3, 4] (l' := [(0, .ref 0), (1, .int a1), (2, .int a2), (3, .int v1539), (4, .int v1540)]) rfl ?_
                exact ihL1527 v1539 v1540 (by omega) (by omega)
              · refine g_iload rfl ?_
                refine g_if_eq (fun c1541 => ?_) (fun c1541 => ?_)
                · exfalso; omega
                · refine g_iconst (by decide) (fun v1542 kv1542 => ?_)
                  refine g_goto ?_
                  refine g_iadd' (fun v1543 ov1543 => ?_)
                  refine g_istore_n (l' := [(0, .ref 0), (1, .int a1), (2, .int a2), (3, .int v1543), (4, .int v1526), (5, .int v1533)]) rfl rfl ?_
                  refine g_iinc (l' := (fun v1544 => [(0, .ref 0), (1, .int a1), (2, .int a2), (3, .int v1543), (4, .int v1544), (5, .int v1533)])) rfl rfl (by decide) (by omega) (fun _ => rfl) (fun v1544 ev1544 => ?_)
                  refine g_goto ?_
                  refine gG_pick [0, 1, 2, 3, 4] (l' := [(0, .ref 0), (1, .int a1), (2, .int a2), (3, .int v1543), (4, .int v1544)]) rfl ?_
                  exact ihL1527 v1543 v1544 (by omega) (by omega)
            · refine g_aload_n rfl ?_
              refine g_gfr hIH1517 sm_0 rfl ?_
              refine g_aload_n rfl ?_
              refine g_gfr hIH1517 sm_0 rfl ?_
              refine g_iload rfl ?_
              refine g_ialoadk hIH1517 sm_9 rfl (by omega) ev1530 ?_
              refine g_baload hIH1517 sm_13 rfl (by omega) (fun v1545 ev1545 lv1545 uv1545 => ?_)
              refine g_if_eq (fun c1546 => ?_) (fun c1546 => ?_)
              · refine g_iconst (by decide) (fun v1547 kv1547 => ?_)
                refine g_nop ?_
                refine g_istore (l' := [(0, .ref 0), (1, .int a1), (2, .int a2), (3, .int v1525), (4, .int v1526), (5, .int v1547)]) rfl rfl ?_
                refine g_iload_n rfl ?_
                refine g_aload_n rfl ?_
                refine g_iload rfl ?_
                refine g_invvi hIH1517 sm_0 rfl rfl rfl rfl (s_201 v1526 (by omega) H1517 hIH1517 hJH1517) (fun v1550 H1548 r1549 => ?_)
                obtain ⟨rfl, bv1550⟩ := r1549
                refine g_iload_n rfl ?_
                refine g_if2_ne (fun c1551 => ?_) (fun c1551 => ?_)
                · refine g_iconst (by decide) (fun v1552 kv1552 => ?_)
                  refine g_nop ?_
                  refine g_iadd (by have := gz_any v1525; omega) (fun v1553 ev1553 => ?_)
                  refine g_istore_n (l' := [(0, .ref 0), (1, .int a1), (2, .int a2), (3, .int v1553), (4, .int v1526), (5, .int v1547)]) rfl rfl ?_
                  refine g_iinc (l' := (fun v1554 => [(0, .ref 0), (1, .int a1), (2, .int a2), (3, .int v1553), (4, .int v1554), (5, .int v1547)])) rfl rfl (by decide) (by omega) (fun _ => rfl) (fun v1554 ev1554 => ?_)
                  refine g_goto ?_
                  refine gG_pick [0, 1, 2, 3, 4] (l' := [(0, .ref 0), (1, .int a1), (2, .int a2), (3, .int v1553), (4, .int v1554)]) rfl ?_
                  exact ihL1527 v1553 v1554 (by omega) (by omega)
                · refine g_iload rfl ?_
                  refine g_if_eq (fun c1555 => ?_) (fun c1555 => ?_)
                  · refine g_iconst (by decide) (fun v1556 kv1556 => ?_)
                    refine g_nop ?_
                    refine g_iadd (by have := gz_any v1525; omega) (fun v1557 ev1557 => ?_)
                    refine g_istore_n (l' := [(0, .ref 0), (1, .int a1), (2, .int a2), (3, .int v1557), (4, .int v1526), (5, .int v1547)]) rfl rfl ?_
                    refine g_iinc (l' := (fun v1558 => [(0, .ref 0), (1, .int a1), (2, .int a2), (3, .int v1557), (4, .int v1558), (5, .int v1547)])) rfl rfl (by decide) (by omega) (fun _ => rfl) (fun v1558 ev1558 => ?_)
                    refine g_goto ?_
                    refine gG_pick [0, 1, 2, 3, 4] (l' := [(0, .ref 0), (1, .int a1), (2, .int a2), (3, .int v1557), (4, .int v1558)]) rfl ?_
                    exact ihL1527 v1557 v1558 (by omega) (by omega)
                  · exfalso; omega
              · refine g_nop ?_
                refine g_iconst (by decide) (fun v1559 kv1559 => ?_)
                refine g_goto ?_
                refine g_istore (l' := [(0, .ref 0), (1, .int a1), (2, .int a2), (3, .int v1525), (4, .int v1526), (5, .int v1559)]) rfl rfl ?_
                refine g_iload_n rfl ?_
                refine g_aload_n rfl ?_
                refine g_iload rfl ?_
                refine g_invvi hIH1517 sm_0 rfl rfl rfl rfl (s_201 v1526 (by omega) H1517 hIH1517 hJH1517) (fun v1562 H1560 r1561 => ?_)
                obtain ⟨rfl, bv1562⟩ := r1561
                refine g_iload_n rfl ?_
                refine g_if2_ne (fun c1563 => ?_) (fun c1563 => ?_)
                · refine g_iconst (by decide) (fun v1564 kv1564 => ?_)
                  refine g_nop ?_
                  refine g_iadd (by have := gz_any v1525; omega) (fun v1565 ev1565 => ?_)
                  refine g_istore_n (l' := [(0, .ref 0), (1, .int a1), (2, .int a2), (3, .int v1565), (4, .int v1526), (5, .int v1559)]) rfl rfl ?_
                  refine g_iinc (l' := (fun v1566 => [(0, .ref 0), (1, .int a1), (2, .int a2), (3, .int v1565), (4, .int v1566), (5, .int v1559)])) rfl rfl (by decide) (by omega) (fun _ => rfl) (fun v1566 ev1566 => ?_)
                  refine g_goto ?_
                  refine gG_pick [0, 1, 2, 3, 4] (l' := [(0, .ref 0), (1, .int a1), (2, .int a2), (3, .int v1565), (4, .int v1566)]) rfl ?_
                  exact ihL1527 v1565 v1566 (by omega) (by omega)
                · refine g_iload rfl ?_
                  refine g_if_eq (fun c1567 => ?_) (fun c1567 => ?_)
                  · exfalso; omega
                  · refine g_iconst (by decide) (fun v1568 kv1568 => ?_)
                    refine g_goto ?_
                    refine g_iadd' (fun v1569 ov1569 => ?_)
                    refine g_istore_n (l' := [(0, .ref 0), (1, .int a1), (2, .int a2), (3, .int v1569), (4, .int v1526), (5, .int v1559)]) rfl rfl ?_
                    refine g_iinc (l' := (fun v1570 => [(0, .ref 0), (1, .int a1), (2, .int a2), (3, .int v1569), (4, .int v1570), (5, .int v1559)])) rfl rfl (by decide) (by omega) (fun _ => rfl) (fun v1570 ev1570 => ?_)
                    refine g_goto ?_
                    refine gG_pick [0, 1, 2, 3, 4] (l' := [(0, .ref 0), (1, .int a1), (2, .int a2), (3, .int v1569), (4, .int v1570)]) rfl ?_
                    exact ihL1527 v1569 v1570 (by omega) (by omega)
      exact L1527 _ v1523 v1524 (by omega) (Nat.lt_succ_self _)
    · refine g_nop ?_
      refine g_iconst (by decide) (fun v1571 kv1571 => ?_)
      exact g_iret ⟨_, rfl, hIH1504, hJH1504, (e1505.symm.trans ek0_2), m1506⟩
set_option maxRecDepth 4000 in
set_option maxHeartbeats 4000000 in
/-- M.clash -/
theorem s_244 (a1 : Int32) (a2 : Int32) (a3 : Int32) (H : mzH) (hI : gI SM H) (hJ : JN H) : gCall 244 [.ref 0, .int a1, .int a2, .int a3] H (gRi (fun v H' => gI SM H' ∧ JN H' ∧ fZ H' 0 2 = fZ H 0 2 ∧ kpM H H')) := by
  obtain ⟨k0_2, ek0_2⟩ : ∃ z, z = fZ H 0 2 := ⟨_, rfl⟩
  have ik0_2 : k0_2.toInt = (fZ H 0 2).toInt := by rw [← ek0_2]
  have bk0_2 : 0 ≤ k0_2.toInt ∧ k0_2.toInt ≤ 900 := by rw [ek0_2]; exact fZ_of hI sm_0 rfl
  have mkfr : kpM H H := kpM_r
  refine gG_call [(0, .ref 0), (1, .int a1), (2, .int a2), (3, .int a3)] ⟨rfl, rfl, rfl, rfl, trivial⟩ ?_
  show gG 7 zB_244 (mzBlk zB_244 0) [(0, .ref 0), (1, .int a1), (2, .int a2), (3, .int a3)] [] H 0 0 _
  refine g_aload_n rfl ?_
  refine g_iconst (by decide) (fun v989 kv989 => ?_)
  refine g_pfi hI sm_0 rfl (gz_any _) (fun H990 eH990 hIH990 => ?_)
  have hJH990 : JN H990 := JN_sF eH990 hJ
  have e991 : k0_2 = fZ H990 0 2 := by rw [eH990, fZ_sF_ne (by decide)]; exact ek0_2
  have m992 : kpM H H990 := kpM_F mkfr eH990 (by omega)
  refine g_iload_n rfl ?_
  refine g_invti rfl rfl rfl (s_205 a1 H990 hIH990 hJH990) (fun v995 H993 r994 => ?_)
  obtain ⟨rfl, bv995, p996⟩ := r994
  refine g_if_eq (fun c997 => ?_) (fun c997 => ?_)
  · refine g_iconst (by decide) (fun v998 kv998 => ?_)
    exact g_iret ⟨_, rfl, hIH990, hJH990, (e991.symm.trans ek0_2), m992⟩
  · refine g_iload_n rfl ?_
    refine g_if_lt (fun c999 => ?_) (fun c999 => ?_)
    · refine g_iconst (by decide) (fun v1000 kv1000 => ?_)
      exact g_iret ⟨_, rfl, hIH990, hJH990, (e991.symm.trans ek0_2), m992⟩
    · refine g_iload_n rfl ?_
      refine g_if_lt (fun c1001 => ?_) (fun c1001 => ?_)
      · refine g_iconst (by decide) (fun v1002 kv1002 => ?_)
        exact g_iret ⟨_, rfl, hIH990, hJH990, (e991.symm.trans ek0_2), m992⟩
      · refine g_iload_n rfl ?_
        refine g_iconst (by decide) (fun v1003 kv1003 => ?_)
        refine g_if2_le (fun c1004 => ?_) (fun c1004 => ?_)
        · refine g_aload_n rfl ?_
          refine g_invvv hIH990 sm_0 rfl rfl rfl rfl (s_199 H990 hIH990 hJH990) (fun H1005 r1006 => ?_)
          obtain ⟨hIH1005, hJH1005, w1007, w1008, w1009, w1010, w1011, m1012, m1013, p1014⟩ := r1006
          have e1015 : k0_2 = fZ H1005 0 2 := e991.trans w1007.symm
          have m1016 : kpM H H1005 := kpM_t m992 m1013
          refine g_iload_n rfl ?_
          refine g_istore (l' := [(0, .ref 0), (1, .int a1), (2, .int a2), (3, .int a3), (4, .int a2)]) rfl rfl ?_
          refine g_iconst (by decide) (fun v1017 kv1017 => ?_)
          refine g_istore (l' := [(0, .ref 0), (1, .int a1), (2, .int a2), (3, .int a3), (4, .int a2), (5, .int v1017)]) rfl rfl ?_
          refine g_nop ?_
          have L1020 : ∀ (N : Nat) (v1018 : Int32) (v1019 : Int32), (0 ≤ v1018.toInt ∧ v1018.toInt ≤ 2147483647) → (0 ≤ v1019.toInt ∧ v1019.toInt ≤ 60) → (60 - v1019.toInt).toNat < N → gG 7 zB_244 (mzBlk zB_244 3) [(0, .ref 0), (1, .int a1), (2, .int a2), (3, .int a3), (4, .int v1018), (5, .int v1019)] [] H1005 0 0 (gRi (fun v H' => gI SM H' ∧ JN H' ∧ fZ H' 0 2 = fZ H 0 2 ∧ kpM H H')) := by
            intro N
            induction N with
            | zero => intro v1018 v1019 bv1018 bv1019 hmL1020; exact absurd hmL1020 (Nat.not_lt_zero _)
            | succ N ihL1020 =>
              intro v1018 v1019 bv1018 bv1019 hmL1020
              refine g_iload rfl ?_
              refine g_aload_n rfl ?_
              refine g_gfi hIH1005 sm_0 rfl (fun v1021 ev1021 lv1021 uv1021 => ?_)
              refine g_if2_ge (fun c1022 => ?_) (fun c1022 => ?_)
              · refine g_bipush (by decide) (fun v1023 kv1023 => ?_)
                exact g_iret ⟨_, rfl, hIH1005, (JM_n hJH1005), (e1015.symm.trans ek0_2), m1016⟩
              · refine g_aload_n rfl ?_
                refine g_gfr hIH1005 sm_0 rfl ?_
                refine g_iload rfl ?_
                refine g_iaload hIH1005 sm_19 rfl (by omega) (fun v1024 ev1024 lv1024 uv1024 => ?_)
                refine g_istore (l' := [(0, .ref 0), (1, .int a1), (2, .int a2), (3, .int a3), (4, .int v1018), (5, .int v1019), (6, .int v1024)]) rfl rfl ?_
                refine g_aload_n rfl ?_
                refine g_iload rfl ?_
                refine g_iconst (by decide) (fun v1025 kv1025 => ?_)
                refine g_invvi hIH1005 sm_0 rfl rfl rfl rfl (s_181 v1024 (by omega) v1025 (by omega) H1005 hIH1005 (JM_n hJH1005)) (fun v1028 H1026 r1027 => ?_)
                obtain ⟨rfl, p1029⟩ := r1027
                have tv1028 : v1028 = aZ H1005 2 (69 + 5 * v1024.toInt + 1).toNat := by rw [p1029, kv1025]
                have qv1028 := JN_w1 (JM_n hJH1005) (by omega) tv1028
                refine g_bipush (by decide) (fun v1030 kv1030 => ?_)
                refine g_if2_ne (fun c1031 => ?_) (fun c1031 => ?_)
                · refine g_iinc (l' := (fun v1032 => [(0, .ref 0), (1, .int a1), (2, .int a2), (3, .int a3), (4, .int v1018), (5, .int v1032), (6, .int v1024)])) rfl rfl (by decide) (by omega) (fun _ => rfl) (fun v1032 ev1032 => ?_)
                  refine g_goto ?_
                  refine gG_pick [0, 1, 2, 3, 4, 5] (l' := [(0, .ref 0), (1, .int a1), (2, .int a2), (3, .int a3), (4, .int v1018), (5, .int v1032)]) rfl ?_
                  exact ihL1020 v1018 v1032 (by have := gz_any v1018; omega) (by omega) (by omega)
                · refine g_aload_n rfl ?_
                  refine g_iload rfl ?_
                  refine g_iconst (by decide) (fun v1033 kv1033 => ?_)
                  refine g_invvi hIH1005 sm_0 rfl rfl rfl rfl (s_181 v1024 (by omega) v1033 (by omega) H1005 hIH1005 (JM_n hJH1005)) (fun v1036 H1034 r1035 => ?_)
                  obtain ⟨rfl, p1037⟩ := r1035
                  have tv1036 : v1036 = aZ H1005 2 (69 + 5 * v1024.toInt + 2).toNat := by rw [p1037, kv1033]
                  have qv1036 := JN_w2 (JM_n hJH1005) (by omega) tv1036
                  refine g_iload_n rfl ?_
                  refine g_if2_ne (fun c1038 => ?_) (fun c1038 => ?_)
                  · refine g_iinc (l' := (fun v1039 => [(0, .ref 0), (1, .int a1), (2, .int a2), (3, .int a3), (4, .int v1018), (5, .int v1039), (6, .int v1024)])) rfl rfl (by decide) (by omega) (fun _ => rfl) (fun v1039 ev1039 => ?_)
                    refine g_goto ?_
                    refine gG_pick [0, 1, 2, 3, 4, 5] (l' := [(0, .ref 0), (1, .int a1), (2, .int a2), (3, .int a3), (4, .int v1018), (5, .int v1039)]) rfl ?_
                    exact ihL1020 v1018 v1039 (by have := gz_any v1018; omega) (by omega) (by omega)
                  · refine g_aload_n rfl ?_
                    refine g_gfr hIH1005 sm_0 rfl ?_
                    refine g_iload rfl ?_
                    refine g_iaload hIH1005 sm_20 rfl (by omega) (fun v1040 ev1040 lv1040 uv1040 => ?_)
                    refine g_bipush (by decide) (fun v1041 kv1041 => ?_)
                    refine g_if2_eq (fun c1042 => ?_) (fun c1042 => ?_)
                    · refine g_iload rfl ?_
                      refine g_if_ne (fun c1043 => ?_) (fun c1043 => ?_)
                      · refine g_iinc (l' := (fun v1044 => [(0, .ref 0), (1, .int a1), (2, .int a2), (3, .int a3), (4, .int v1044), (5, .int v1019), (6, .int v1024)])) rfl rfl (by decide) (by have := gz_any v1018; omega) (fun _ => rfl) (fun v1044 ev1044 => ?_)
                        refine g_nop ?_
                        refine g_iinc (l' := (fun v1045 => [(0, .ref 0), (1, .int a1), (2, .int a2), (3, .int a3), (4, .int v1044), (5, .int v1045), (6, .int v1024)])) rfl rfl (by decide) (by omega) (fun _ => rfl) (fun v1045 ev1045 => ?_)
                        refine g_goto ?_
                        refine gG_pick [0, 1, 2, 3, 4, 5] (l' := [(0, .ref 0), (1, .int a1), (2, .int a2), (3, .int a3), (4, .int v1044), (5, .int v1045)]) rfl ?_
                        exact ihL1020 v1044 v1045 (by have := gz_any v1044; omega) (by omega) (by omega)
                      · refine g_iload_n rfl ?_
                        refine g_if_ne (fun c1046 => ?_) (fun c1046 => ?_)
                        · refine g_iload_n rfl ?_
                          refine g_iconst (by decide) (fun v1047 kv1047 => ?_)
                          refine g_if2_ne (fun c1048 => ?_) (fun c1048 => ?_)
                          · refine g_iload rfl ?_
                            refine g_nop ?_
                            exact g_iret ⟨_, rfl, hIH1005, (JM_n hJH1005), (e1015.symm.trans ek0_2), m1016⟩
                          · refine g_aload_n rfl ?_
                            refine g_iload rfl ?_
                            refine g_iconst (by decide) (fun v1049 kv1049 => ?_)
                            refine g_invvi hIH1005 sm_0 rfl rfl rfl rfl (s_181 v1024 (by omega) v1049 (by omega) H1005 hIH1005 (JM_n hJH1005)) (fun v1052 H1050 r1051 => ?_)
                            obtain ⟨rfl, p1053⟩ := r1051
                            have tv1052 : v1052 = aZ H1005 2 (69 + 5 * v1024.toInt + 0).toNat := by rw [p1053, kv1049]
                            refine g_goto ?_
                            exact g_iret ⟨_, rfl, hIH1005, (JM_n hJH1005), (e1015.symm.trans ek0_2), m1016⟩
                        · refine g_aload_n rfl ?_
                          refine g_iload rfl ?_
                          refine g_iconst (by decide) (fun v1054 kv1054 => ?_)
                          refine g_invvi hIH1005 sm_0 rfl rfl rfl rfl (s_181 v1024 (by omega) v1054 (by omega) H1005 hIH1005 (JM_n hJH1005)) (fun v1057 H1055 r1056 => ?_)
                          obtain ⟨rfl, p1058⟩ := r1056
                          have tv1057 : v1057 = aZ H1005 2 (69 + 5 * v1024.toInt + 3).toNat := by rw [p1058, kv1054]
                          have qv1057 := JN_w3 (JM_n hJH1005) (by omega) tv1028 tv1057
                          refine g_goto ?_
                          exact g_iret ⟨_, rfl, hIH1005, (JM_n hJH1005), (e1015.symm.trans ek0_2), m1016⟩
                    · refine g_aload_n rfl ?_
                      refine g_gfr hIH1005 sm_0 rfl ?_
                      refine g_iload rfl ?_
                      refine g_ialoadk hIH1005 sm_20 rfl (by omega) ev1040 ?_
                      refine g_bipush (by decide) (fun v1059 kv1059 => ?_)
                      refine g_if2_eq (fun c1060 => ?_) (fun c1060 => ?_)
                      · refine g_iload rfl ?_
                        refine g_if_ne (fun c1061 => ?_) (fun c1061 => ?_)
                        · refine g_iinc (l' := (fun v1062 => [(0, .ref 0), (1, .int a1), (2, .int a2), (3, .int a3), (4, .int v1062), (5, .int v1019), (6, .int v1024)])) rfl rfl (by decide) (by have := gz_any v1018; omega) (fun _ => rfl) (fun v1062 ev1062 => ?_)
                          refine g_nop ?_
                          refine g_iinc (l' := (fun v1063 => [(0, .ref 0), (1, .int a1), (2, .int a2), (3, .int a3), (4, .int v1062), (5, .int v1063), (6, .int v1024)])) rfl rfl (by decide) (by omega) (fun _ => rfl) (fun v1063 ev1063 => ?_)
                          refine g_goto ?_
                          refine gG_pick [0, 1, 2, 3, 4, 5] (l' := [(0, .ref 0), (1, .int a1), (2, .int a2), (3, .int a3), (4, .int v1062), (5, .int v1063)]) rfl ?_
                          exact ihL1020 v1062 v1063 (by have := gz_any v1062; omega) (by omega) (by omega)
                        · refine g_iload_n rfl ?_
                          refine g_if_ne (fun c1064 => ?_) (fun c1064 => ?_)
                          · refine g_iload_n rfl ?_
                            refine g_iconst (by decide) (fun v1065 kv1065 => ?_)
                            refine g_if2_ne (fun c1066 => ?_) (fun c1066 => ?_)
                            · refine g_iload rfl ?_
                              refine g_nop ?_
                              exact g_iret ⟨_, rfl, hIH1005, (JM_n hJH1005), (e1015.symm.trans ek0_2), m1016⟩
                            · refine g_aload_n rfl ?_
                              refine g_iload rfl ?_
                              refine g_iconst (by decide) (fun v1067 kv1067 => ?_)
                              refine g_invvi hIH1005 sm_0 rfl rfl rfl rfl (s_181 v1024 (by omega) v1067 (by omega) H1005 hIH1005 (JM_n hJH1005)) (fun v1070 H1068 r1069 => ?_)
                              obtain ⟨rfl, p1071⟩ := r1069
                              have tv1070 : v1070 = aZ H1005 2 (69 + 5 * v1024.toInt + 0).toNat := by rw [p1071, kv1067]
                              refine g_goto ?_
                              exact g_iret ⟨_, rfl, hIH1005, (JM_n hJH1005), (e1015.symm.trans ek0_2), m1016⟩
                          · refine g_aload_n rfl ?_
                            refine g_iload rfl ?_
                            refine g_iconst (by decide) (fun v1072 kv1072 => ?_)
                            refine g_invvi hIH1005 sm_0 rfl rfl rfl rfl (s_181 v1024 (by omega) v1072 (by omega) H1005 hIH1005 (JM_n hJH1005)) (fun v1075 H1073 r1074 => ?_)
                            obtain ⟨rfl, p1076⟩ := r1074
                            have tv1075 : v1075 = aZ H1005 2 (69 + 5 * v1024.toInt + 3).toNat := by rw [p1076, kv1072]
                            have qv1075 := JN_w3 (JM_n hJH1005) (by omega) tv1028 tv1075
                            refine g_goto ?_
                            exact g_iret ⟨_, rfl, hIH1005, (JM_n hJH1005), (e1015.symm.trans ek0_2), m1016⟩
                      · refine g_goto ?_
                        refine g_iinc (l' := (fun v1077 => [(0, .ref 0), (1, .int a1), (2, .int a2), (3, .int a3), (4, .int v1018), (5, .int v1077), (6, .int v1024)])) rfl rfl (by decide) (by omega) (fun _ => rfl) (fun v1077 ev1077 => ?_)
                        refine g_goto ?_
                        refine gG_pick [0, 1, 2, 3, 4, 5] (l' := [(0, .ref 0), (1, .int a1), (2, .int a2), (3, .int a3), (4, .int v1018), (5, .int v1077)]) rfl ?_
                        exact ihL1020 v1018 v1077 (by have := gz_any v1018; omega) (by omega) (by omega)
          exact L1020 _ a2 v1017 (by have := gz_any a2; omega) (by omega) (Nat.lt_succ_self _)
        · refine g_nop ?_
          refine g_iconst (by decide) (fun v1078 kv1078 => ?_)
          exact g_iret ⟨_, rfl, hIH990, hJH990, (e991.symm.trans ek0_2), m992⟩
set_option maxRecDepth 4000 in
set_option maxHeartbeats 4000000 in
/-- M.soonest -/
theorem s_245 (a1 : Int32) (a2 : Int32) (a3 : Int32) (H : mzH) (hI : gI SM H) (hJ : JN H) : gCall 245 [.ref 0, .int a1, .int a2, .int a3] H (gRi (fun v H' => gI SM H' ∧ JN H' ∧ fZ H' 0 2 = fZ H 0 2 ∧ kpM H H')) := by
  obtain ⟨k0_2, ek0_2⟩ : ∃ z, z = fZ H 0 2 := ⟨_, rfl⟩
  have ik0_2 : k0_2.toInt = (fZ H 0 2).toInt := by rw [← ek0_2]
  have bk0_2 : 0 ≤ k0_2.toInt ∧ k0_2.toInt ≤ 900 := by rw [ek0_2]; exact fZ_of hI sm_0 rfl
  have mkfr : kpM H H := kpM_r
  refine gG_call [(0, .ref 0), (1, .int a1), (2, .int a2), (3, .int a3)] ⟨rfl, rfl, rfl, rfl, trivial⟩ ?_
  show gG 7 zB_245 (mzBlk zB_245 0) [(0, .ref 0), (1, .int a1), (2, .int a2), (3, .int a3)] [] H 0 0 _
  refine g_aload_n rfl ?_
  refine g_iconst (by decide) (fun v189 kv189 => ?_)
  refine g_pfi hI sm_0 rfl (gz_any _) (fun H190 eH190 hIH190 => ?_)
  have hJH190 : JN H190 := JN_sF eH190 hJ
  have e191 : k0_2 = fZ H190 0 2 := by rw [eH190, fZ_sF_ne (by decide)]; exact ek0_2
  have m192 : kpM H H190 := kpM_F mkfr eH190 (by omega)
  refine g_iload_n rfl ?_
  refine g_invti rfl rfl rfl (s_205 a1 H190 hIH190 hJH190) (fun v195 H193 r194 => ?_)
  obtain ⟨rfl, bv195, p196⟩ := r194
  refine g_if_eq (fun c197 => ?_) (fun c197 => ?_)
  · refine g_iconst (by decide) (fun v198 kv198 => ?_)
    exact g_iret ⟨_, rfl, hIH190, hJH190, (e191.symm.trans ek0_2), m192⟩
  · refine g_iload_n rfl ?_
    refine g_invti rfl rfl rfl (s_206 a2 H190 hIH190 hJH190) (fun v201 H199 r200 => ?_)
    obtain ⟨rfl, bv201⟩ := r200
    refine g_if_eq (fun c202 => ?_) (fun c202 => ?_)
    · refine g_iconst (by decide) (fun v203 kv203 => ?_)
      exact g_iret ⟨_, rfl, hIH190, hJH190, (e191.symm.trans ek0_2), m192⟩
    · refine g_aload_n rfl ?_
      refine g_iload_n rfl ?_
      refine g_invvi hIH190 sm_0 rfl rfl rfl rfl (s_210 a3 H190 hIH190 hJH190) (fun v206 H204 r205 => ?_)
      obtain ⟨rfl, bv206, p207⟩ := r205
      refine g_if_ne (fun c208 => ?_) (fun c208 => ?_)
      · refine g_aload_n rfl ?_
        refine g_iload_n rfl ?_
        refine g_invvv hIH190 sm_0 rfl rfl rfl rfl (s_200 a2 H190 hIH190 hJH190) (fun H209 r210 => ?_)
        obtain ⟨hIH209, hJH209, w211, m212⟩ := r210
        have e213 : k0_2 = fZ H209 0 2 := e191.trans w211.symm
        have m214 : kpM H H209 := kpM_t m192 m212
        refine g_aload_n rfl ?_
        refine g_iload_n rfl ?_
        refine g_invvi hIH209 sm_0 rfl rfl rfl rfl (s_201 a1 (by omega) H209 hIH209 hJH209) (fun v217 H215 r216 => ?_)
        obtain ⟨rfl, bv217⟩ := r216
        refine g_istore (l' := [(0, .ref 0), (1, .int a1), (2, .int a2), (3, .int a3), (4, .int v217)]) rfl rfl ?_
        refine g_iload rfl ?_
        refine g_if_lt (fun c218 => ?_) (fun c218 => ?_)
        · refine g_iload rfl ?_
          refine g_if_ge (fun c219 => ?_) (fun c219 => ?_)
          · exfalso; omega
          · refine g_iload rfl ?_
            refine g_goto ?_
            exact g_iret ⟨_, rfl, hIH209, (JM_n hJH209), (e213.symm.trans ek0_2), m214⟩
        · refine g_iload rfl ?_
          refine g_iload_n rfl ?_
          refine g_if2_ne (fun c220 => ?_) (fun c220 => ?_)
          · refine g_aload_n rfl ?_
            refine g_gfr hIH209 sm_0 rfl ?_
            refine g_bipush (by decide) (fun v221 kv221 => ?_)
            refine g_iload rfl ?_
            refine g_imulk' (n := 8) kv221 (by omega) (fun v222 ev222 => ?_)
            refine g_iload_n rfl ?_
            refine g_iadd (by omega) (fun v223 ev223 => ?_)
            refine g_iaload hIH209 sm_6 rfl (by omega) (fun v224 ev224 lv224 uv224 => ?_)
            refine g_istore (l' := [(0, .ref 0), (1, .int a1), (2, .int a2), (3, .int a3), (4, .int v217), (5, .int v224)]) rfl rfl ?_
            refine g_iload rfl ?_
            refine g_ldc (by decide) (fun v225 kv225 => ?_)
            refine g_if2_lt (fun c226 => ?_) (fun c226 => ?_)
            · refine g_aload_n rfl ?_
              refine g_gfr hIH209 sm_0 rfl ?_
              refine g_aload_n rfl ?_
              refine g_iload_n rfl ?_
              refine g_invvi hIH209 sm_0 rfl rfl rfl rfl (s_185 a1 (by omega) H209 hIH209 hJH209) (fun v229 H227 r228 => ?_)
              obtain ⟨rfl, bv229⟩ := r228
              refine g_iaload hIH209 sm_11 rfl (by omega) (fun v230 ev230 lv230 uv230 => ?_)
              refine g_iload rfl ?_
              refine g_iadd' (fun v231 ov231 => ?_)
              refine g_istore (l' := [(0, .ref 0), (1, .int a1), (2, .int a2), (3, .int a3), (4, .int v217), (5, .int v224), (6, .int v231)]) rfl rfl ?_
              refine g_iload rfl ?_
              refine g_iload_n rfl ?_
              refine g_if2_le (fun c232 => ?_) (fun c232 => ?_)
              · refine g_iload_n rfl ?_
                refine g_nop ?_
                exact g_iret ⟨_, rfl, hIH209, (JM_n hJH209), (e213.symm.trans ek0_2), m214⟩
              · refine g_iload rfl ?_
                refine g_goto ?_
                exact g_iret ⟨_, rfl, hIH209, (JM_n hJH209), (e213.symm.trans ek0_2), m214⟩
            · refine g_bipush (by decide) (fun v233 kv233 => ?_)
              exact g_iret ⟨_, rfl, hIH209, (JM_n hJH209), (e213.symm.trans ek0_2), m214⟩
          · refine g_nop ?_
            refine g_iload rfl ?_
            refine g_if_ge (fun c234 => ?_) (fun c234 => ?_)
            · refine g_iload_n rfl ?_
              refine g_nop ?_
              exact g_iret ⟨_, rfl, hIH209, (JM_n hJH209), (e213.symm.trans ek0_2), m214⟩
            · exfalso; omega
      · refine g_nop ?_
        refine g_iconst (by decide) (fun v235 kv235 => ?_)
        exact g_iret ⟨_, rfl, hIH190, hJH190, (e191.symm.trans ek0_2), m192⟩
set_option maxRecDepth 4000 in
set_option maxHeartbeats 4000000 in
/-- M.lost -/
theorem s_246 (a1 : Int32) (a2 : Int32) (a3 : Int32) (H : mzH) (hI : gI SM H) (hJ : JN H) : gCall 246 [.ref 0, .int a1, .int a2, .int a3] H (gRi (fun v H' => gI SM H' ∧ JN H' ∧ fZ H' 0 2 = fZ H 0 2 ∧ kpM H H')) := by
  obtain ⟨k0_2, ek0_2⟩ : ∃ z, z = fZ H 0 2 := ⟨_, rfl⟩
  have ik0_2 : k0_2.toInt = (fZ H 0 2).toInt := by rw [← ek0_2]
  have bk0_2 : 0 ≤ k0_2.toInt ∧ k0_2.toInt ≤ 900 := by rw [ek0_2]; exact fZ_of hI sm_0 rfl
  have mkfr : kpM H H := kpM_r
  refine gG_call [(0, .ref 0), (1, .int a1), (2, .int a2), (3, .int a3)] ⟨rfl, rfl, rfl, rfl, trivial⟩ ?_
  show gG 6 zB_246 (mzBlk zB_246 0) [(0, .ref 0), (1, .int a1), (2, .int a2), (3, .int a3)] [] H 0 0 _
  refine g_aload_n rfl ?_
  refine g_iconst (by decide) (fun v361 kv361 => ?_)
  refine g_pfi hI sm_0 rfl (gz_any _) (fun H362 eH362 hIH362 => ?_)
  have hJH362 : JN H362 := JN_sF eH362 hJ
  have e363 : k0_2 = fZ H362 0 2 := by rw [eH362, fZ_sF_ne (by decide)]; exact ek0_2
  have m364 : kpM H H362 := kpM_F mkfr eH362 (by omega)
  refine g_iload_n rfl ?_
  refine g_invti rfl rfl rfl (s_206 a1 H362 hIH362 hJH362) (fun v367 H365 r366 => ?_)
  obtain ⟨rfl, bv367⟩ := r366
  refine g_if_eq (fun c368 => ?_) (fun c368 => ?_)
  · refine g_iconst (by decide) (fun v369 kv369 => ?_)
    exact g_iret ⟨_, rfl, hIH362, hJH362, (e363.symm.trans ek0_2), m364⟩
  · refine g_iload_n rfl ?_
    refine g_invti rfl rfl rfl (s_206 a2 H362 hIH362 hJH362) (fun v372 H370 r371 => ?_)
    obtain ⟨rfl, bv372⟩ := r371
    refine g_if_eq (fun c373 => ?_) (fun c373 => ?_)
    · refine g_iconst (by decide) (fun v374 kv374 => ?_)
      exact g_iret ⟨_, rfl, hIH362, hJH362, (e363.symm.trans ek0_2), m364⟩
    · refine g_iload_n rfl ?_
      refine g_if_ge (fun c375 => ?_) (fun c375 => ?_)
      · refine g_aload_n rfl ?_
        refine g_iload_n rfl ?_
        refine g_invvv hIH362 sm_0 rfl rfl rfl rfl (s_200 a1 H362 hIH362 hJH362) (fun H376 r377 => ?_)
        obtain ⟨hIH376, hJH376, w378, m379⟩ := r377
        have e380 : k0_2 = fZ H376 0 2 := e363.trans w378.symm
        have m381 : kpM H H376 := kpM_t m364 m379
        refine g_iload_n rfl ?_
        refine g_istore (l' := [(0, .ref 0), (1, .int a1), (2, .int a2), (3, .int a3), (4, .int a3)]) rfl rfl ?_
        refine g_iconst (by decide) (fun v382 kv382 => ?_)
        refine g_istore (l' := [(0, .ref 0), (1, .int a1), (2, .int a2), (3, .int a3), (4, .int a3), (5, .int v382)]) rfl rfl ?_
        refine g_nop ?_
        have L385 : ∀ (N : Nat) (v383 : Int32) (v384 : Int32), (0 ≤ v383.toInt ∧ v383.toInt ≤ 2147483647) → (0 ≤ v384.toInt ∧ v384.toInt ≤ 40) → (40 - v384.toInt).toNat < N → gG 6 zB_246 (mzBlk zB_246 3) [(0, .ref 0), (1, .int a1), (2, .int a2), (3, .int a3), (4, .int v383), (5, .int v384)] [] H376 0 0 (gRi (fun v H' => gI SM H' ∧ JN H' ∧ fZ H' 0 2 = fZ H 0 2 ∧ kpM H H')) := by
          intro N
          induction N with
          | zero => intro v383 v384 bv383 bv384 hmL385; exact absurd hmL385 (Nat.not_lt_zero _)
          | succ N ihL385 =>
            intro v383 v384 bv383 bv384 hmL385
            refine g_iload rfl ?_
            refine g_bipush (by decide) (fun v386 kv386 => ?_)
            refine g_if2_ge (fun c387 => ?_) (fun c387 => ?_)
            · refine g_bipush (by decide) (fun v388 kv388 => ?_)
              exact g_iret ⟨_, rfl, hIH376, (JM_n hJH376), (e380.symm.trans ek0_2), m381⟩
            · refine g_aload_n rfl ?_
              refine g_iload rfl ?_
              refine g_invvi hIH376 sm_0 rfl rfl rfl rfl (s_201 v384 (by omega) H376 hIH376 hJH376) (fun v391 H389 r390 => ?_)
              obtain ⟨rfl, bv391⟩ := r390
              refine g_if_lt (fun c392 => ?_) (fun c392 => ?_)
              · refine g_iinc (l' := (fun v393 => [(0, .ref 0), (1, .int a1), (2, .int a2), (3, .int a3), (4, .int v383), (5, .int v393)])) rfl rfl (by decide) (by omega) (fun _ => rfl) (fun v393 ev393 => ?_)
                refine g_goto ?_
                exact ihL385 v383 v393 (by have := gz_any v383; omega) (by omega) (by omega)
              · refine g_iload_n rfl ?_
                refine g_aload_n rfl ?_
                refine g_gfr hIH376 sm_0 rfl ?_
                refine g_aload_n rfl ?_
                refine g_iload rfl ?_
                refine g_invvi hIH376 sm_0 rfl rfl rfl rfl (s_185 v384 (by omega) H376 hIH376 hJH376) (fun v396 H394 r395 => ?_)
                obtain ⟨rfl, bv396⟩ := r395
                refine g_iaload hIH376 sm_11 rfl (by omega) (fun v397 ev397 lv397 uv397 => ?_)
                refine g_isub' (fun v398 ov398 => ?_)
                refine g_iload_n rfl ?_
                refine g_if2_ge (fun c399 => ?_) (fun c399 => ?_)
                · refine g_iload rfl ?_
                  refine g_if_ne (fun c400 => ?_) (fun c400 => ?_)
                  · refine g_iinc (l' := (fun v401 => [(0, .ref 0), (1, .int a1), (2, .int a2), (3, .int a3), (4, .int v401), (5, .int v384)])) rfl rfl (by decide) (by have := gz_any v383; omega) (fun _ => rfl) (fun v401 ev401 => ?_)
                    refine g_nop ?_
                    refine g_iinc (l' := (fun v402 => [(0, .ref 0), (1, .int a1), (2, .int a2), (3, .int a3), (4, .int v401), (5, .int v402)])) rfl rfl (by decide) (by omega) (fun _ => rfl) (fun v402 ev402 => ?_)
                    refine g_goto ?_
                    exact ihL385 v401 v402 (by have := gz_any v401; omega) (by omega) (by omega)
                  · refine g_iload rfl ?_
                    exact g_iret ⟨_, rfl, hIH376, (JM_n hJH376), (e380.symm.trans ek0_2), m381⟩
                · refine g_goto ?_
                  refine g_iinc (l' := (fun v403 => [(0, .ref 0), (1, .int a1), (2, .int a2), (3, .int a3), (4, .int v383), (5, .int v403)])) rfl rfl (by decide) (by omega) (fun _ => rfl) (fun v403 ev403 => ?_)
                  refine g_goto ?_
                  exact ihL385 v383 v403 (by have := gz_any v383; omega) (by omega) (by omega)
        exact L385 _ a3 v382 (by have := gz_any a3; omega) (by omega) (Nat.lt_succ_self _)
      · refine g_nop ?_
        refine g_iconst (by decide) (fun v404 kv404 => ?_)
        exact g_iret ⟨_, rfl, hIH362, hJH362, (e363.symm.trans ek0_2), m364⟩
set_option maxRecDepth 4000 in
set_option maxHeartbeats 4000000 in
/-- M.ifSwapped -/
theorem s_247 (a1 : Int32) (a2 : Int32) (a3 : Int32) (H : mzH) (hI : gI SM H) (hJ : JN H) : gCall 247 [.ref 0, .int a1, .int a2, .int a3] H (gRi (fun v H' => gI SM H' ∧ JN H' ∧ fZ H' 0 2 = fZ H 0 2 ∧ kpM H H')) := by
  obtain ⟨k0_2, ek0_2⟩ : ∃ z, z = fZ H 0 2 := ⟨_, rfl⟩
  have ik0_2 : k0_2.toInt = (fZ H 0 2).toInt := by rw [← ek0_2]
  have bk0_2 : 0 ≤ k0_2.toInt ∧ k0_2.toInt ≤ 900 := by rw [ek0_2]; exact fZ_of hI sm_0 rfl
  have mkfr : kpM H H := kpM_r
  refine gG_call [(0, .ref 0), (1, .int a1), (2, .int a2), (3, .int a3)] ⟨rfl, rfl, rfl, rfl, trivial⟩ ?_
  show gG 5 zB_247 (mzBlk zB_247 0) [(0, .ref 0), (1, .int a1), (2, .int a2), (3, .int a3)] [] H 0 0 _
  refine g_aload_n rfl ?_
  refine g_iconst (by decide) (fun v529 kv529 => ?_)
  refine g_pfi hI sm_0 rfl (gz_any _) (fun H530 eH530 hIH530 => ?_)
  have hJH530 : JN H530 := JN_sF eH530 hJ
  have e531 : k0_2 = fZ H530 0 2 := by rw [eH530, fZ_sF_ne (by decide)]; exact ek0_2
  have m532 : kpM H H530 := kpM_F mkfr eH530 (by omega)
  refine g_iload_n rfl ?_
  refine g_if_lt (fun c533 => ?_) (fun c533 => ?_)
  · refine g_iconst (by decide) (fun v534 kv534 => ?_)
    refine g_nop ?_
    refine g_istore (l' := [(0, .ref 0), (1, .int a1), (2, .int a2), (3, .int a3), (4, .int v534)]) rfl rfl ?_
    refine g_iload rfl ?_
    refine g_if_ne (fun c535 => ?_) (fun c535 => ?_)
    · exfalso; omega
    · refine g_sipush (by decide) (fun v536 kv536 => ?_)
      exact g_iret ⟨_, rfl, hIH530, hJH530, (e531.symm.trans ek0_2), m532⟩
  · refine g_iload_n rfl ?_
    refine g_aload_n rfl ?_
    refine g_invvi hIH530 sm_0 rfl rfl rfl rfl (s_180 H530 hIH530 hJH530) (fun v539 H537 r538 => ?_)
    obtain ⟨rfl, bv539, p540⟩ := r538
    refine g_if2_ge (fun c541 => ?_) (fun c541 => ?_)
    · refine g_iconst (by decide) (fun v542 kv542 => ?_)
      refine g_nop ?_
      refine g_istore (l' := [(0, .ref 0), (1, .int a1), (2, .int a2), (3, .int a3), (4, .int v542)]) rfl rfl ?_
      refine g_iload rfl ?_
      refine g_if_ne (fun c543 => ?_) (fun c543 => ?_)
      · exfalso; omega
      · refine g_sipush (by decide) (fun v544 kv544 => ?_)
        exact g_iret ⟨_, rfl, hIH530, hJH530, (e531.symm.trans ek0_2), m532⟩
    · refine g_iload_n rfl ?_
      refine g_if_lt (fun c545 => ?_) (fun c545 => ?_)
      · refine g_iconst (by decide) (fun v546 kv546 => ?_)
        refine g_nop ?_
        refine g_istore (l' := [(0, .ref 0), (1, .int a1), (2, .int a2), (3, .int a3), (4, .int v546)]) rfl rfl ?_
        refine g_iload rfl ?_
        refine g_if_ne (fun c547 => ?_) (fun c547 => ?_)
        · exfalso; omega
        · refine g_sipush (by decide) (fun v548 kv548 => ?_)
          exact g_iret ⟨_, rfl, hIH530, hJH530, (e531.symm.trans ek0_2), m532⟩
      · refine g_iload_n rfl ?_
        refine g_aload_n rfl ?_
        refine g_invvi hIH530 sm_0 rfl rfl rfl rfl (s_180 H530 hIH530 hJH530) (fun v551 H549 r550 => ?_)
        obtain ⟨rfl, bv551, p552⟩ := r550
        refine g_if2_ge (fun c553 => ?_) (fun c553 => ?_)
        · refine g_iconst (by decide) (fun v554 kv554 => ?_)
          refine g_nop ?_
          refine g_istore (l' := [(0, .ref 0), (1, .int a1), (2, .int a2), (3, .int a3), (4, .int v554)]) rfl rfl ?_
          refine g_iload rfl ?_
          refine g_if_ne (fun c555 => ?_) (fun c555 => ?_)
          · exfalso; omega
          · refine g_sipush (by decide) (fun v556 kv556 => ?_)
            exact g_iret ⟨_, rfl, hIH530, hJH530, (e531.symm.trans ek0_2), m532⟩
        · refine g_iload_n rfl ?_
          refine g_iload_n rfl ?_
          refine g_if2_eq (fun c557 => ?_) (fun c557 => ?_)
          · refine g_iconst (by decide) (fun v558 kv558 => ?_)
            refine g_nop ?_
            refine g_istore (l' := [(0, .ref 0), (1, .int a1), (2, .int a2), (3, .int a3), (4, .int v558)]) rfl rfl ?_
            refine g_iload rfl ?_
            refine g_if_ne (fun c559 => ?_) (fun c559 => ?_)
            · exfalso; omega
            · refine g_sipush (by decide) (fun v560 kv560 => ?_)
              exact g_iret ⟨_, rfl, hIH530, hJH530, (e531.symm.trans ek0_2), m532⟩
          · refine g_iload_n rfl ?_
            refine g_iconst (by decide) (fun v561 kv561 => ?_)
            refine g_if2_eq (fun c562 => ?_) (fun c562 => ?_)
            · refine g_iconst (by decide) (fun v563 kv563 => ?_)
              refine g_goto ?_
              refine g_istore (l' := [(0, .ref 0), (1, .int a1), (2, .int a2), (3, .int a3), (4, .int v563)]) rfl rfl ?_
              refine g_iload rfl ?_
              refine g_if_ne (fun c564 => ?_) (fun c564 => ?_)
              · refine g_aload_n rfl ?_
                refine g_invvv hIH530 sm_0 rfl rfl rfl rfl (s_182 H530 hIH530 hJH530) (fun H565 r566 => ?_)
                obtain ⟨hIH565, hJH565, m567, m568, m569, p570⟩ := r566
                have e571 : k0_2 = fZ H565 0 2 := e531.trans (m567 0 2).symm
                have m572 : kpM H H565 := kpM_t m532 m569
                refine g_aload_n rfl ?_
                refine g_gfr hIH565 sm_0 rfl ?_
                refine g_iload_n rfl ?_
                refine g_aload_n rfl ?_
                refine g_iload_n rfl ?_
                refine g_iconst (by decide) (fun v573 kv573 => ?_)
                refine g_invvi hIH565 sm_0 rfl rfl rfl rfl (s_181 a2 (by omega) v573 (by omega) H565 hIH565 hJH565) (fun v576 H574 r575 => ?_)
                obtain ⟨rfl, p577⟩ := r575
                have tv576 : v576 = aZ H565 2 (69 + 5 * a2.toInt + 0).toNat := by rw [p577, kv573]
                refine g_iastore hIH565 sm_18 (by omega) (gz_any _) (fun H578 eH578 hIH578 => ?_)
                have hJH578 : JN H578 := JN_sA (by decide) eH578 hJH565
                have e579 : k0_2 = fZ H578 0 2 := by rw [eH578, fZ_sA]; exact e571
                have m580 : kpM H H578 := kpM_A m572 eH578 (by omega)
                refine g_aload_n rfl ?_
                refine g_gfr hIH578 sm_0 rfl ?_
                refine g_iload_n rfl ?_
                refine g_aload_n rfl ?_
                refine g_iload_n rfl ?_
                refine g_iconst (by decide) (fun v581 kv581 => ?_)
                refine g_invvi hIH578 sm_0 rfl rfl rfl rfl (s_181 a1 (by omega) v581 (by omega) H578 hIH578 hJH578) (fun v584 H582 r583 => ?_)
                obtain ⟨rfl, p585⟩ := r583
                have tv584 : v584 = aZ H578 2 (69 + 5 * a1.toInt + 0).toNat := by rw [p585, kv581]
                refine g_iastore hIH578 sm_18 (by omega) (gz_any _) (fun H586 eH586 hIH586 => ?_)
                have hJH586 : JN H586 := JN_sA (by decide) eH586 hJH578
                have e587 : k0_2 = fZ H586 0 2 := by rw [eH586, fZ_sA]; exact e579
                have m588 : kpM H H586 := kpM_A m580 eH586 (by omega)
                refine g_aload_n rfl ?_
                refine g_sipush (by decide) (fun v589 kv589 => ?_)
                refine g_invvv hIH586 sm_0 rfl rfl rfl rfl (s_198 v589 H586 hIH586 hJH586) (fun H590 r591 => ?_)
                obtain ⟨hIH590, hJH590, w592, w593, w594, w595, w596, m597, m598, m599, p600⟩ := r591
                have e601 : k0_2 = fZ H590 0 2 := e587.trans w592.symm
                have m602 : kpM H H590 := kpM_t m588 m599
                refine g_iload_n rfl ?_
                refine g_iconst (by decide) (fun v603 kv603 => ?_)
                refine g_if2_ne (fun c604 => ?_) (fun c604 => ?_)
                · exfalso; omega
                · refine g_aload_n rfl ?_
                  refine g_invvi hIH590 sm_0 rfl rfl rfl rfl (s_224 H590 hIH590 (JM_n hJH590)) (fun v607 H605 r606 => ?_)
                  obtain rfl := r606
                  refine g_goto ?_
                  exact g_iret ⟨_, rfl, hIH590, (JM_n hJH590), (e601.symm.trans ek0_2), m602⟩
              · exfalso; omega
            · refine g_iload_n rfl ?_
              refine g_invti rfl rfl rfl (s_205 a3 H530 hIH530 hJH530) (fun v610 H608 r609 => ?_)
              obtain ⟨rfl, bv610, p611⟩ := r609
              refine g_if_eq (fun c612 => ?_) (fun c612 => ?_)
              · refine g_iconst (by decide) (fun v613 kv613 => ?_)
                refine g_nop ?_
                refine g_istore (l' := [(0, .ref 0), (1, .int a1), (2, .int a2), (3, .int a3), (4, .int v613)]) rfl rfl ?_
                refine g_iload rfl ?_
                refine g_if_ne (fun c614 => ?_) (fun c614 => ?_)
                · exfalso; omega
                · refine g_sipush (by decide) (fun v615 kv615 => ?_)
                  exact g_iret ⟨_, rfl, hIH530, hJH530, (e531.symm.trans ek0_2), m532⟩
              · refine g_nop ?_
                refine g_iconst (by decide) (fun v616 kv616 => ?_)
                refine g_goto ?_
                refine g_istore (l' := [(0, .ref 0), (1, .int a1), (2, .int a2), (3, .int a3), (4, .int v616)]) rfl rfl ?_
                refine g_iload rfl ?_
                refine g_if_ne (fun c617 => ?_) (fun c617 => ?_)
                · refine g_aload_n rfl ?_
                  refine g_invvv hIH530 sm_0 rfl rfl rfl rfl (s_182 H530 hIH530 hJH530) (fun H618 r619 => ?_)
                  obtain ⟨hIH618, hJH618, m620, m621, m622, p623⟩ := r619
                  have e624 : k0_2 = fZ H618 0 2 := e531.trans (m620 0 2).symm
                  have m625 : kpM H H618 := kpM_t m532 m622
                  refine g_aload_n rfl ?_
                  refine g_gfr hIH618 sm_0 rfl ?_
                  refine g_iload_n rfl ?_
                  refine g_aload_n rfl ?_
                  refine g_iload_n rfl ?_
                  refine g_iconst (by decide) (fun v626 kv626 => ?_)
                  refine g_invvi hIH618 sm_0 rfl rfl rfl rfl (s_181 a2 (by omega) v626 (by omega) H618 hIH618 hJH618) (fun v629 H627 r628 => ?_)
                  obtain ⟨rfl, p630⟩ := r628
                  have tv629 : v629 = aZ H618 2 (69 + 5 * a2.toInt + 0).toNat := by rw [p630, kv626]
                  refine g_iastore hIH618 sm_18 (by omega) (gz_any _) (fun H631 eH631 hIH631 => ?_)
                  have hJH631 : JN H631 := JN_sA (by decide) eH631 hJH618
                  have e632 : k0_2 = fZ H631 0 2 := by rw [eH631, fZ_sA]; exact e624
                  have m633 : kpM H H631 := kpM_A m625 eH631 (by omega)
                  refine g_aload_n rfl ?_
                  refine g_gfr hIH631 sm_0 rfl ?_
                  refine g_iload_n rfl ?_
                  refine g_aload_n rfl ?_
                  refine g_iload_n rfl ?_
                  refine g_iconst (by decide) (fun v634 kv634 => ?_)
                  refine g_invvi hIH631 sm_0 rfl rfl rfl rfl (s_181 a1 (by omega) v634 (by omega) H631 hIH631 hJH631) (fun v637 H635 r636 => ?_)
                  obtain ⟨rfl, p638⟩ := r636
                  have tv637 : v637 = aZ H631 2 (69 + 5 * a1.toInt + 0).toNat := by rw [p638, kv634]
                  refine g_iastore hIH631 sm_18 (by omega) (gz_any _) (fun H639 eH639 hIH639 => ?_)
                  have hJH639 : JN H639 := JN_sA (by decide) eH639 hJH631
                  have e640 : k0_2 = fZ H639 0 2 := by rw [eH639, fZ_sA]; exact e632
                  have m641 : kpM H H639 := kpM_A m633 eH639 (by omega)
                  refine g_aload_n rfl ?_
                  refine g_sipush (by decide) (fun v642 kv642 => ?_)
                  refine g_invvv hIH639 sm_0 rfl rfl rfl rfl (s_198 v642 H639 hIH639 hJH639) (fun H643 r644 => ?_)
                  obtain ⟨hIH643, hJH643, w645, w646, w647, w648, w649, m650, m651, m652, p653⟩ := r644
                  have e654 : k0_2 = fZ H643 0 2 := e640.trans w645.symm
                  have m655 : kpM H H643 := kpM_t m641 m652
                  refine g_iload_n rfl ?_
                  refine g_iconst (by decide) (fun v656 kv656 => ?_)
                  refine g_if2_ne (fun c657 => ?_) (fun c657 => ?_)
                  · refine g_aload_n rfl ?_
                    refine g_iload_n rfl ?_
                    refine g_invvi hIH643 sm_0 rfl rfl rfl rfl (s_201 a3 (by omega) H643 hIH643 hJH643) (fun v660 H658 r659 => ?_)
                    obtain ⟨rfl, bv660⟩ := r659
                    refine g_nop ?_
                    exact g_iret ⟨_, rfl, hIH643, (JM_n hJH643), (e654.symm.trans ek0_2), m655⟩
                  · exfalso; omega
                · exfalso; omega
set_option maxRecDepth 4000 in
set_option maxHeartbeats 4000000 in
/-- M.manyAt -/
theorem s_248 (a1 : Int32) (H : mzH) (hI : gI SM H) (hJ : JM H) : gCall 248 [.ref 0, .int a1] H (gRi (fun v H' => H = H')) := by
  refine gG_call [(0, .ref 0), (1, .int a1)] ⟨rfl, rfl, trivial⟩ ?_
  show gG 4 zB_248 (mzBlk zB_248 0) [(0, .ref 0), (1, .int a1)] [] H 0 0 _
  refine g_iconst (by decide) (fun v459 kv459 => ?_)
  refine g_istore_n (l' := [(0, .ref 0), (1, .int a1), (2, .int v459)]) rfl rfl ?_
  refine g_iconst (by decide) (fun v460 kv460 => ?_)
  refine g_istore_n (l' := [(0, .ref 0), (1, .int a1), (2, .int v459), (3, .int v460)]) rfl rfl ?_
  refine g_nop ?_
  have L463 : ∀ (N : Nat) (v461 : Int32) (v462 : Int32), (0 ≤ v462.toInt ∧ v462.toInt ≤ 40) → (40 - v462.toInt).toNat < N → gG 4 zB_248 (mzBlk zB_248 1) [(0, .ref 0), (1, .int a1), (2, .int v461), (3, .int v462)] [] H 0 0 (gRi (fun v H' => H = H')) := by
    intro N
    induction N with
    | zero => intro v461 v462 bv462 hmL463; exact absurd hmL463 (Nat.not_lt_zero _)
    | succ N ihL463 =>
      intro v461 v462 bv462 hmL463
      refine g_iload_n rfl ?_
      refine g_bipush (by decide) (fun v464 kv464 => ?_)
      refine g_if2_ge (fun c465 => ?_) (fun c465 => ?_)
      · refine g_iload_n rfl ?_
        exact g_iret ⟨_, rfl, rfl⟩
      · refine g_iload_n rfl ?_
        refine g_aload_n rfl ?_
        refine g_iload_n rfl ?_
        refine g_invvi hI sm_0 rfl rfl rfl rfl (s_201 v462 (by omega) H hI hJ) (fun v468 H466 r467 => ?_)
        obtain ⟨rfl, bv468⟩ := r467
        refine g_iload_n rfl ?_
        refine g_if2_ne (fun c469 => ?_) (fun c469 => ?_)
        · refine g_iconst (by decide) (fun v470 kv470 => ?_)
          refine g_nop ?_
          refine g_iadd (by have := gz_any v461; omega) (fun v471 ev471 => ?_)
          refine g_istore_n (l' := [(0, .ref 0), (1, .int a1), (2, .int v471), (3, .int v462)]) rfl rfl ?_
          refine g_iinc (l' := (fun v472 => [(0, .ref 0), (1, .int a1), (2, .int v471), (3, .int v472)])) rfl rfl (by decide) (by omega) (fun _ => rfl) (fun v472 ev472 => ?_)
          refine g_goto ?_
          exact ihL463 v471 v472 (by omega) (by omega)
        · refine g_iconst (by decide) (fun v473 kv473 => ?_)
          refine g_goto ?_
          refine g_iadd' (fun v474 ov474 => ?_)
          refine g_istore_n (l' := [(0, .ref 0), (1, .int a1), (2, .int v474), (3, .int v462)]) rfl rfl ?_
          refine g_iinc (l' := (fun v475 => [(0, .ref 0), (1, .int a1), (2, .int v474), (3, .int v475)])) rfl rfl (by decide) (by omega) (fun _ => rfl) (fun v475 ev475 => ?_)
          refine g_goto ?_
          exact ihL463 v474 v475 (by omega) (by omega)
  exact L463 _ v459 v460 (by omega) (Nat.lt_succ_self _)
set_option maxRecDepth 4000 in
set_option maxHeartbeats 4000000 in
/-- M.busy -/
theorem s_249 (a1 : Int32) (a2 : Int32) (H : mzH) (hI : gI SM H) (hJ : JN H) : gCall 249 [.ref 0, .int a1, .int a2] H (gRi (fun v H' => gI SM H' ∧ JN H' ∧ fZ H' 0 2 = fZ H 0 2 ∧ kpM H H')) := by
  obtain ⟨k0_2, ek0_2⟩ : ∃ z, z = fZ H 0 2 := ⟨_, rfl⟩
  have ik0_2 : k0_2.toInt = (fZ H 0 2).toInt := by rw [← ek0_2]
  have bk0_2 : 0 ≤ k0_2.toInt ∧ k0_2.toInt ≤ 900 := by rw [ek0_2]; exact fZ_of hI sm_0 rfl
  have mkfr : kpM H H := kpM_r
  refine gG_call [(0, .ref 0), (1, .int a1), (2, .int a2)] ⟨rfl, rfl, rfl, trivial⟩ ?_
  show gG 7 zB_249 (mzBlk zB_249 0) [(0, .ref 0), (1, .int a1), (2, .int a2)] [] H 0 0 _
  refine g_aload_n rfl ?_
  refine g_iconst (by decide) (fun v811 kv811 => ?_)
  refine g_pfi hI sm_0 rfl (gz_any _) (fun H812 eH812 hIH812 => ?_)
  have hJH812 : JN H812 := JN_sF eH812 hJ
  have e813 : k0_2 = fZ H812 0 2 := by rw [eH812, fZ_sF_ne (by decide)]; exact ek0_2
  have m814 : kpM H H812 := kpM_F mkfr eH812 (by omega)
  refine g_aload_n rfl ?_
  refine g_iload_n rfl ?_
  refine g_invvi hIH812 sm_0 rfl rfl rfl rfl (s_210 a1 H812 hIH812 hJH812) (fun v817 H815 r816 => ?_)
  obtain ⟨rfl, bv817, p818⟩ := r816
  refine g_if_ne (fun c819 => ?_) (fun c819 => ?_)
  · refine g_iload_n rfl ?_
    refine g_if_lt (fun c820 => ?_) (fun c820 => ?_)
    · refine g_iconst (by decide) (fun v821 kv821 => ?_)
      exact g_iret ⟨_, rfl, hIH812, hJH812, (e813.symm.trans ek0_2), m814⟩
    · refine g_iload_n rfl ?_
      refine g_iconst (by decide) (fun v822 kv822 => ?_)
      refine g_if2_le (fun c823 => ?_) (fun c823 => ?_)
      · refine g_aload_n rfl ?_
        refine g_invvv hIH812 sm_0 rfl rfl rfl rfl (s_182 H812 hIH812 hJH812) (fun H824 r825 => ?_)
        obtain ⟨hIH824, hJH824, m826, m827, m828, p829⟩ := r825
        have e830 : k0_2 = fZ H824 0 2 := e813.trans (m826 0 2).symm
        have m831 : kpM H H824 := kpM_t m814 m828
        refine g_aload_n rfl ?_
        refine g_invvv hIH824 sm_0 rfl rfl rfl rfl (s_184 H824 hIH824 hJH824) (fun H832 r833 => ?_)
        obtain ⟨hIH832, hJH832, w834, w835, w836, w837, w838, m839, m840, m841, p842⟩ := r833
        have e843 : k0_2 = fZ H832 0 2 := e830.trans w834.symm
        have m844 : kpM H H832 := kpM_t m831 m841
        refine g_iconst (by decide) (fun v845 kv845 => ?_)
        refine g_istore_n (l' := [(0, .ref 0), (1, .int a1), (2, .int a2), (3, .int v845)]) rfl rfl ?_
        refine g_bipush (by decide) (fun v846 kv846 => ?_)
        refine g_istore (l' := [(0, .ref 0), (1, .int a1), (2, .int a2), (3, .int v845), (4, .int v846)]) rfl rfl ?_
        refine g_iconst (by decide) (fun v847 kv847 => ?_)
        refine g_istore (l' := [(0, .ref 0), (1, .int a1), (2, .int a2), (3, .int v845), (4, .int v846), (5, .int v847)]) rfl rfl ?_
        refine g_nop ?_
        have L854 : ∀ (N : Nat) (v848 : Int32) (v849 : Int32) (v850 : Int32) (H851 : mzH), gI SM H851 → JM H851 → k0_2 = fZ H851 0 2 → kpM H H851 → (-1 ≤ v848.toInt ∧ v848.toInt ≤ 2147483647) → (0 ≤ v850.toInt ∧ v850.toInt ≤ 60) → (60 - v850.toInt).toNat < N → gG 7 zB_249 (mzBlk zB_249 4) [(0, .ref 0), (1, .int a1), (2, .int a2), (3, .int v848), (4, .int v849), (5, .int v850)] [] H851 0 0 (gRi (fun v H' => gI SM H' ∧ JN H' ∧ fZ H' 0 2 = fZ H 0 2 ∧ kpM H H')) := by
          intro N
          induction N with
          | zero => intro v848 v849 v850 H851 hIH851 hJH851 e852 m853 bv848 bv850 hmL854; exact absurd hmL854 (Nat.not_lt_zero _)
          | succ N ihL854 =>
            intro v848 v849 v850 H851 hIH851 hJH851 e852 m853 bv848 bv850 hmL854
            refine g_iload rfl ?_
            refine g_aload_n rfl ?_
            refine g_gfi hIH851 sm_0 rfl (fun v855 ev855 lv855 uv855 => ?_)
            refine g_if2_ge (fun c856 => ?_) (fun c856 => ?_)
            · refine g_iload_n rfl ?_
              refine g_iconst (by decide) (fun v857 kv857 => ?_)
              refine g_if2_ne (fun c858 => ?_) (fun c858 => ?_)
              · refine g_iload_n rfl ?_
                refine g_iconst (by decide) (fun v859 kv859 => ?_)
                refine g_if2_ne (fun c860 => ?_) (fun c860 => ?_)
                · refine g_iload_n rfl ?_
                  refine g_nop ?_
                  exact g_iret ⟨_, rfl, hIH851, (JM_n hJH851), (e852.symm.trans ek0_2), m853⟩
                · refine g_iconst (by decide) (fun v861 kv861 => ?_)
                  refine g_goto ?_
                  exact g_iret ⟨_, rfl, hIH851, (JM_n hJH851), (e852.symm.trans ek0_2), m853⟩
              · refine g_iload rfl ?_
                refine g_goto ?_
                exact g_iret ⟨_, rfl, hIH851, (JM_n hJH851), (e852.symm.trans ek0_2), m853⟩
            · refine g_aload_n rfl ?_
              refine g_aload_n rfl ?_
              refine g_gfr hIH851 sm_0 rfl ?_
              refine g_iload rfl ?_
              refine g_iaload hIH851 sm_19 rfl (by omega) (fun v862 ev862 lv862 uv862 => ?_)
              refine g_invvv hIH851 sm_0 rfl rfl rfl rfl (s_192 v862 (by omega) H851 hIH851 hJH851) (fun H863 r864 => ?_)
              obtain ⟨hIH863, hJH863, m865, m866, m867, m868, m869⟩ := r864
              have e870 : k0_2 = fZ H863 0 2 := e852.trans (m865 0 2).symm
              have m871 : kpM H H863 := kpM_t m853 m869
              refine g_aload_n rfl ?_
              refine g_iload_n rfl ?_
              refine g_invvi hIH863 sm_0 rfl rfl rfl rfl (s_248 a1 H863 hIH863 hJH863) (fun v874 H872 r873 => ?_)
              obtain rfl := r873
              refine g_istore (l' := [(0, .ref 0), (1, .int a1), (2, .int a2), (3, .int v848), (4, .int v849), (5, .int v850), (6, .int v874)]) rfl rfl ?_
              refine g_iload rfl ?_
              refine g_iload_n rfl ?_
              refine g_if2_gt (fun c875 => ?_) (fun c875 => ?_)
              · refine g_iload rfl ?_
                refine g_istore_n (l' := [(0, .ref 0), (1, .int a1), (2, .int a2), (3, .int v874), (4, .int v849), (5, .int v850), (6, .int v874)]) rfl rfl ?_
                refine g_aload_n rfl ?_
                refine g_gfr hIH863 sm_0 rfl ?_
                refine g_aload_n rfl ?_
                refine g_gfr hIH863 sm_0 rfl ?_
                refine g_iload rfl ?_
                refine g_iaload hIH863 sm_19 rfl (by omega) (fun v876 ev876 lv876 uv876 => ?_)
                refine g_iaload hIH863 sm_18 rfl (by omega) (fun v877 ev877 lv877 uv877 => ?_)
                refine g_istore (l' := [(0, .ref 0), (1, .int a1), (2, .int a2), (3, .int v874), (4, .int v877), (5, .int v850), (6, .int v874)]) rfl rfl ?_
                refine g_nop ?_
                refine g_iinc (l' := (fun v878 => [(0, .ref 0), (1, .int a1), (2, .int a2), (3, .int v874), (4, .int v877), (5, .int v878), (6, .int v874)])) rfl rfl (by decide) (by omega) (fun _ => rfl) (fun v878 ev878 => ?_)
                refine g_goto ?_
                refine gG_pick [0, 1, 2, 3, 4, 5] (l' := [(0, .ref 0), (1, .int a1), (2, .int a2), (3, .int v874), (4, .int v877), (5, .int v878)]) rfl ?_
                exact ihL854 v874 v877 v878 H863 hIH863 hJH863 e870 m871 (by have := gz_any v874; omega) (by omega) (by omega)
              · refine g_goto ?_
                refine g_iinc (l' := (fun v879 => [(0, .ref 0), (1, .int a1), (2, .int a2), (3, .int v848), (4, .int v849), (5, .int v879), (6, .int v874)])) rfl rfl (by decide) (by omega) (fun _ => rfl) (fun v879 ev879 => ?_)
                refine g_goto ?_
                refine gG_pick [0, 1, 2, 3, 4, 5] (l' := [(0, .ref 0), (1, .int a1), (2, .int a2), (3, .int v848), (4, .int v849), (5, .int v879)]) rfl ?_
                exact ihL854 v848 v849 v879 H863 hIH863 hJH863 e870 m871 (by have := gz_any v848; omega) (by omega) (by omega)
        exact L854 _ v845 v846 v847 H832 hIH832 hJH832 e843 m844 (by have := gz_any v845; omega) (by omega) (Nat.lt_succ_self _)
      · refine g_nop ?_
        refine g_iconst (by decide) (fun v880 kv880 => ?_)
        exact g_iret ⟨_, rfl, hIH812, hJH812, (e813.symm.trans ek0_2), m814⟩
  · refine g_iload_n rfl ?_
    refine g_bipush (by decide) (fun v881 kv881 => ?_)
    refine g_if2_eq (fun c882 => ?_) (fun c882 => ?_)
    · refine g_iload_n rfl ?_
      refine g_if_lt (fun c883 => ?_) (fun c883 => ?_)
      · refine g_iconst (by decide) (fun v884 kv884 => ?_)
        exact g_iret ⟨_, rfl, hIH812, hJH812, (e813.symm.trans ek0_2), m814⟩
      · refine g_iload_n rfl ?_
        refine g_iconst (by decide) (fun v885 kv885 => ?_)
        refine g_if2_le (fun c886 => ?_) (fun c886 => ?_)
        · refine g_aload_n rfl ?_
          refine g_invvv hIH812 sm_0 rfl rfl rfl rfl (s_182 H812 hIH812 hJH812) (fun H887 r888 => ?_)
          obtain ⟨hIH887, hJH887, m889, m890, m891, p892⟩ := r888
          have e893 : k0_2 = fZ H887 0 2 := e813.trans (m889 0 2).symm
          have m894 : kpM H H887 := kpM_t m814 m891
          refine g_aload_n rfl ?_
          refine g_invvv hIH887 sm_0 rfl rfl rfl rfl (s_184 H887 hIH887 hJH887) (fun H895 r896 => ?_)
          obtain ⟨hIH895, hJH895, w897, w898, w899, w900, w901, m902, m903, m904, p905⟩ := r896
          have e906 : k0_2 = fZ H895 0 2 := e893.trans w897.symm
          have m907 : kpM H H895 := kpM_t m894 m904
          refine g_iconst (by decide) (fun v908 kv908 => ?_)
          refine g_istore_n (l' := [(0, .ref 0), (1, .int a1), (2, .int a2), (3, .int v908)]) rfl rfl ?_
          refine g_bipush (by decide) (fun v909 kv909 => ?_)
          refine g_istore (l' := [(0, .ref 0), (1, .int a1), (2, .int a2), (3, .int v908), (4, .int v909)]) rfl rfl ?_
          refine g_iconst (by decide) (fun v910 kv910 => ?_)
          refine g_istore (l' := [(0, .ref 0), (1, .int a1), (2, .int a2), (3, .int v908), (4, .int v909), (5, .int v910)]) rfl rfl ?_
          refine g_nop ?_
          have L917 : ∀ (N : Nat) (v911 : Int32) (v912 : Int32) (v913 : Int32) (H914 : mzH), gI SM H914 → JM H914 → k0_2 = fZ H914 0 2 → kpM H H914 → (-1 ≤ v911.toInt ∧ v911.toInt ≤ 2147483647) → (0 ≤ v913.toInt ∧ v913.toInt ≤ 60) → (60 - v913.toInt).toNat < N → gG 7 zB_249 (mzBlk zB_249 4) [(0, .ref 0), (1, .int a1), (2, .int a2), (3, .int v911), (4, .int v912), (5, .int v913)] [] H914 0 0 (gRi (fun v H' => gI SM H' ∧ JN H' ∧ fZ H' 0 2 = fZ H 0 2 ∧ kpM H H')) := by
            intro N
            induction N with
            | zero => intro v911 v912 v913 H914 hIH914 hJH914 e915 m916 bv911 bv913 hmL917; exact absurd hmL917 (Nat.not_lt_zero _)
            | succ N ihL917 =>
              intro v911 v912 v913 H914 hIH914 hJH914 e915 m916 bv911 bv913 hmL917
              refine g_iload rfl ?_
              refine g_aload_n rfl ?_
              refine g_gfi hIH914 sm_0 rfl (fun v918 ev918 lv918 uv918 => ?_)
              refine g_if2_ge (fun c919 => ?_) (fun c919 => ?_)
              · refine g_iload_n rfl ?_
                refine g_iconst (by decide) (fun v920 kv920 => ?_)
                refine g_if2_ne (fun c921 => ?_) (fun c921 => ?_)
                · refine g_iload_n rfl ?_
                  refine g_iconst (by decide) (fun v922 kv922 => ?_)
                  refine g_if2_ne (fun c923 => ?_) (fun c923 => ?_)
                  · refine g_iload_n rfl ?_
                    refine g_nop ?_
                    exact g_iret ⟨_, rfl, hIH914, (JM_n hJH914), (e915.symm.trans ek0_2), m916⟩
                  · refine g_iconst (by decide) (fun v924 kv924 => ?_)
                    refine g_goto ?_
                    exact g_iret ⟨_, rfl, hIH914, (JM_n hJH914), (e915.symm.trans ek0_2), m916⟩
                · refine g_iload rfl ?_
                  refine g_goto ?_
                  exact g_iret ⟨_, rfl, hIH914, (JM_n hJH914), (e915.symm.trans ek0_2), m916⟩
              · refine g_aload_n rfl ?_
                refine g_aload_n rfl ?_
                refine g_gfr hIH914 sm_0 rfl ?_
                refine g_iload rfl ?_
                refine g_iaload hIH914 sm_19 rfl (by omega) (fun v925 ev925 lv925 uv925 => ?_)
                refine g_invvv hIH914 sm_0 rfl rfl rfl rfl (s_192 v925 (by omega) H914 hIH914 hJH914) (fun H926 r927 => ?_)
                obtain ⟨hIH926, hJH926, m928, m929, m930, m931, m932⟩ := r927
                have e933 : k0_2 = fZ H926 0 2 := e915.trans (m928 0 2).symm
                have m934 : kpM H H926 := kpM_t m916 m932
                refine g_aload_n rfl ?_
                refine g_iload_n rfl ?_
                refine g_invvi hIH926 sm_0 rfl rfl rfl rfl (s_248 a1 H926 hIH926 hJH926) (fun v937 H935 r936 => ?_)
                obtain rfl := r936
                refine g_istore (l' := [(0, .ref 0), (1, .int a1), (2, .int a2), (3, .int v911), (4, .int v912), (5, .int v913), (6, .int v937)]) rfl rfl ?_
                refine g_iload rfl ?_
                refine g_iload_n rfl ?_
                refine g_if2_gt (fun c938 => ?_) (fun c938 => ?_)
                · refine g_iload rfl ?_
                  refine g_istore_n (l' := [(0, .ref 0), (1, .int a1), (2, .int a2), (3, .int v937), (4, .int v912), (5, .int v913), (6, .int v937)]) rfl rfl ?_
                  refine g_aload_n rfl ?_
                  refine g_gfr hIH926 sm_0 rfl ?_
                  refine g_aload_n rfl ?_
                  refine g_gfr hIH926 sm_0 rfl ?_
                  refine g_iload rfl ?_
                  refine g_iaload hIH926 sm_19 rfl (by omega) (fun v939 ev939 lv939 uv939 => ?_)
                  refine g_iaload hIH926 sm_18 rfl (by omega) (fun v940 ev940 lv940 uv940 => ?_)
                  refine g_istore (l' := [(0, .ref 0), (1, .int a1), (2, .int a2), (3, .int v937), (4, .int v940), (5, .int v913), (6, .int v937)]) rfl rfl ?_
                  refine g_nop ?_
                  refine g_iinc (l' := (fun v941 => [(0, .ref 0), (1, .int a1), (2, .int a2), (3, .int v937), (4, .int v940), (5, .int v941), (6, .int v937)])) rfl rfl (by decide) (by omega) (fun _ => rfl) (fun v941 ev941 => ?_)
                  refine g_goto ?_
                  refine gG_pick [0, 1, 2, 3, 4, 5] (l' := [(0, .ref 0), (1, .int a1), (2, .int a2), (3, .int v937), (4, .int v940), (5, .int v941)]) rfl ?_
                  exact ihL917 v937 v940 v941 H926 hIH926 hJH926 e933 m934 (by have := gz_any v937; omega) (by omega) (by omega)
                · refine g_goto ?_
                  refine g_iinc (l' := (fun v942 => [(0, .ref 0), (1, .int a1), (2, .int a2), (3, .int v911), (4, .int v912), (5, .int v942), (6, .int v937)])) rfl rfl (by decide) (by omega) (fun _ => rfl) (fun v942 ev942 => ?_)
                  refine g_goto ?_
                  refine gG_pick [0, 1, 2, 3, 4, 5] (l' := [(0, .ref 0), (1, .int a1), (2, .int a2), (3, .int v911), (4, .int v912), (5, .int v942)]) rfl ?_
                  exact ihL917 v911 v912 v942 H926 hIH926 hJH926 e933 m934 (by have := gz_any v911; omega) (by omega) (by omega)
          exact L917 _ v908 v909 v910 H895 hIH895 hJH895 e906 m907 (by have := gz_any v908; omega) (by omega) (Nat.lt_succ_self _)
        · refine g_nop ?_
          refine g_iconst (by decide) (fun v943 kv943 => ?_)
          exact g_iret ⟨_, rfl, hIH812, hJH812, (e813.symm.trans ek0_2), m814⟩
    · refine g_iload_n rfl ?_
      refine g_bipush (by decide) (fun v944 kv944 => ?_)
      refine g_if2_ne (fun c945 => ?_) (fun c945 => ?_)
      · refine g_iconst (by decide) (fun v946 kv946 => ?_)
        exact g_iret ⟨_, rfl, hIH812, hJH812, (e813.symm.trans ek0_2), m814⟩
      · refine g_nop ?_
        refine g_iload_n rfl ?_
        refine g_if_lt (fun c947 => ?_) (fun c947 => ?_)
        · refine g_iconst (by decide) (fun v948 kv948 => ?_)
          exact g_iret ⟨_, rfl, hIH812, hJH812, (e813.symm.trans ek0_2), m814⟩
        · refine g_iload_n rfl ?_
          refine g_iconst (by decide) (fun v949 kv949 => ?_)
          refine g_if2_le (fun c950 => ?_) (fun c950 => ?_)
          · refine g_aload_n rfl ?_
            refine g_invvv hIH812 sm_0 rfl rfl rfl rfl (s_182 H812 hIH812 hJH812) (fun H951 r952 => ?_)
            obtain ⟨hIH951, hJH951, m953, m954, m955, p956⟩ := r952
            have e957 : k0_2 = fZ H951 0 2 := e813.trans (m953 0 2).symm
            have m958 : kpM H H951 := kpM_t m814 m955
            refine g_aload_n rfl ?_
            refine g_invvv hIH951 sm_0 rfl rfl rfl rfl (s_184 H951 hIH951 hJH951) (fun H959 r960 => ?_)
            obtain ⟨hIH959, hJH959, w961, w962, w963, w964, w965, m966, m967, m968, p969⟩ := r960
            have e970 : k0_2 = fZ H959 0 2 := e957.trans w961.symm
            have m971 : kpM H H959 := kpM_t m958 m968
            refine g_iconst (by decide) (fun v972 kv972 => ?_)
            refine g_istore_n (l' := [(0, .ref 0), (1, .int a1), (2, .int a2), (3, .int v972)]) rfl rfl ?_
            refine g_bipush (by decide) (fun v973 kv973 => ?_)
            refine g_istore (l' := [(0, .ref 0), (1, .int a1), (2, .int a2), (3, .int v972), (4, .int v973)]) rfl rfl ?_
            refine g_iconst (by decide) (fun v974 kv974 => ?_)
            refine g_istore (l' := [(0, .ref 0), (1, .int a1), (2, .int a2), (3, .int v972), (4, .int v973), (5, .int v974)]) rfl rfl ?_
            refine g_nop ?_
            have L981 : ∀ (N : Nat) (v975 : Int32) (v976 : Int32) (v977 : Int32) (H978 : mzH), gI SM H978 → JM H978 → k0_2 = fZ H978 0 2 → kpM H H978 → (-1 ≤ v975.toInt ∧ v975.toInt ≤ 2147483647) → (0 ≤ v977.toInt ∧ v977.toInt ≤ 60) → (60 - v977.toInt).toNat < N → gG 7 zB_249 (mzBlk zB_249 4) [(0, .ref 0), (1, .int a1), (2, .int a2), (3, .int v975), (4, .int v976), (5, .int v977)] [] H978 0 0 (gRi (fun v H' => gI SM H' ∧ JN H' ∧ fZ H' 0 2 = fZ H 0 2 ∧ kpM H H')) := by
              intro N
              induction N with
              | zero => intro v975 v976 v977 H978 hIH978 hJH978 e979 m980 bv975 bv977 hmL981; exact absurd hmL981 (Nat.not_lt_zero _)
              | succ N ihL981 =>
                intro v975 v976 v977 H978 hIH978 hJH978 e979 m980 bv975 bv977 hmL981
                refine g_iload rfl ?_
                refine g_aload_n rfl ?_
                refine g_gfi hIH978 sm_0 rfl (fun v982 ev982 lv982 uv982 => ?_)
                refine g_if2_ge (fun c983 => ?_) (fun c983 => ?_)
                · refine g_iload_n rfl ?_
                  refine g_iconst (by decide) (fun v984 kv984 => ?_)
                  refine g_if2_ne (fun c985 => ?_) (fun c985 => ?_)
                  · refine g_iload_n rfl ?_
                    refine g_iconst (by decide) (fun v986 kv986 => ?_)
                    refine g_if2_ne (fun c987 => ?_) (fun c987 => ?_)
                    · refine g_iload_n rfl ?_
                      refine g_nop ?_
                      exact g_iret ⟨_, rfl, hIH978, (JM_n hJH978), (e979.symm.trans ek0_2), m980⟩
                    · refine g_iconst (by decide) (fun v988 kv988 => ?_)
                      refine g_goto ?_
                      exact g_iret ⟨_, rfl, hIH978, (JM_n hJH978), (e979.symm.trans ek0_2), m980⟩
                  · refine g_iload rfl ?_
                    refine g_goto ?_
                    exact g_iret ⟨_, rfl, hIH978, (JM_n hJH978), (e979.symm.trans ek0_2), m980⟩
                · refine g_aload_n rfl ?_
                  refine g_aload_n rfl ?_
                  refine g_gfr hIH978 sm_0 rfl ?_
                  refine g_iload rfl ?_
                  refine g_iaload hIH978 sm_19 rfl (by omega) (fun v989 ev989 lv989 uv989 => ?_)
                  refine g_invvv hIH978 sm_0 rfl rfl rfl rfl (s_192 v989 (by omega) H978 hIH978 hJH978) (fun H990 r991 => ?_)
                  obtain ⟨hIH990, hJH990, m992, m993, m994, m995, m996⟩ := r991
                  have e997 : k0_2 = fZ H990 0 2 := e979.trans (m992 0 2).symm
                  have m998 : kpM H H990 := kpM_t m980 m996
                  refine g_aload_n rfl ?_
                  refine g_iload_n rfl ?_
                  refine g_invvi hIH990 sm_0 rfl rfl rfl rfl (s_248 a1 H990 hIH990 hJH990) (fun v1001 H999 r1000 => ?_)
                  obtain rfl := r1000
                  refine g_istore (l' := [(0, .ref 0), (1, .int a1), (2, .int a2), (3, .int v975), (4, .int v976), (5, .int v977), (6, .int v1001)]) rfl rfl ?_
                  refine g_iload rfl ?_
                  refine g_iload_n rfl ?_
                  refine g_if2_gt (fun c1002 => ?_) (fun c1002 => ?_)
                  · refine g_iload rfl ?_
                    refine g_istore_n (l' := [(0, .ref 0), (1, .int a1), (2, .int a2), (3, .int v1001), (4, .int v976), (5, .int v977), (6, .int v1001)]) rfl rfl ?_
                    refine g_aload_n rfl ?_
                    refine g_gfr hIH990 sm_0 rfl ?_
                    refine g_aload_n rfl ?_
                    refine g_gfr hIH990 sm_0 rfl ?_
                    refine g_iload rfl ?_
                    refine g_iaload hIH990 sm_19 rfl (by omega) (fun v1003 ev1003 lv1003 uv1003 => ?_)
                    refine g_iaload hIH990 sm_18 rfl (by omega) (fun v1004 ev1004 lv1004 uv1004 => ?_)
                    refine g_istore (l' := [(0, .ref 0), (1, .int a1), (2, .int a2), (3, .int v1001), (4, .int v1004), (5, .int v977), (6, .int v1001)]) rfl rfl ?_
                    refine g_nop ?_
                    refine g_iinc (l' := (fun v1005 => [(0, .ref 0), (1, .int a1), (2, .int a2), (3, .int v1001), (4, .int v1004), (5, .int v1005), (6, .int v1001)])) rfl rfl (by decide) (by omega) (fun _ => rfl) (fun v1005 ev1005 => ?_)
                    refine g_goto ?_
                    refine gG_pick [0, 1, 2, 3, 4, 5] (l' := [(0, .ref 0), (1, .int a1), (2, .int a2), (3, .int v1001), (4, .int v1004), (5, .int v1005)]) rfl ?_
                    exact ihL981 v1001 v1004 v1005 H990 hIH990 hJH990 e997 m998 (by have := gz_any v1001; omega) (by omega) (by omega)
                  · refine g_goto ?_
                    refine g_iinc (l' := (fun v1006 => [(0, .ref 0), (1, .int a1), (2, .int a2), (3, .int v975), (4, .int v976), (5, .int v1006), (6, .int v1001)])) rfl rfl (by decide) (by omega) (fun _ => rfl) (fun v1006 ev1006 => ?_)
                    refine g_goto ?_
                    refine gG_pick [0, 1, 2, 3, 4, 5] (l' := [(0, .ref 0), (1, .int a1), (2, .int a2), (3, .int v975), (4, .int v976), (5, .int v1006)]) rfl ?_
                    exact ihL981 v975 v976 v1006 H990 hIH990 hJH990 e997 m998 (by have := gz_any v975; omega) (by omega) (by omega)
            exact L981 _ v972 v973 v974 H959 hIH959 hJH959 e970 m971 (by have := gz_any v972; omega) (by omega) (Nat.lt_succ_self _)
          · refine g_nop ?_
            refine g_iconst (by decide) (fun v1007 kv1007 => ?_)
            exact g_iret ⟨_, rfl, hIH812, hJH812, (e813.symm.trans ek0_2), m814⟩
set_option maxRecDepth 4000 in
set_option maxHeartbeats 4000000 in
/-- M.travelled -/
theorem s_250 (a1 : Int32) (H : mzH) (hI : gI SM H) (hJ : JN H) : gCall 250 [.ref 0, .int a1] H (gRi (fun v H' => gI SM H' ∧ JN H' ∧ fZ H' 0 2 = fZ H 0 2 ∧ kpM H H')) := by
  obtain ⟨k0_2, ek0_2⟩ : ∃ z, z = fZ H 0 2 := ⟨_, rfl⟩
  have ik0_2 : k0_2.toInt = (fZ H 0 2).toInt := by rw [← ek0_2]
  have bk0_2 : 0 ≤ k0_2.toInt ∧ k0_2.toInt ≤ 900 := by rw [ek0_2]; exact fZ_of hI sm_0 rfl
  have mkfr : kpM H H := kpM_r
  refine gG_call [(0, .ref 0), (1, .int a1)] ⟨rfl, rfl, trivial⟩ ?_
  show gG 6 zB_250 (mzBlk zB_250 0) [(0, .ref 0), (1, .int a1)] [] H 0 0 _
  refine g_aload_n rfl ?_
  refine g_iconst (by decide) (fun v456 kv456 => ?_)
  refine g_pfi hI sm_0 rfl (gz_any _) (fun H457 eH457 hIH457 => ?_)
  have hJH457 : JN H457 := JN_sF eH457 hJ
  have e458 : k0_2 = fZ H457 0 2 := by rw [eH457, fZ_sF_ne (by decide)]; exact ek0_2
  have m459 : kpM H H457 := kpM_F mkfr eH457 (by omega)
  refine g_iload_n rfl ?_
  refine g_invti rfl rfl rfl (s_205 a1 H457 hIH457 hJH457) (fun v462 H460 r461 => ?_)
  obtain ⟨rfl, bv462, p463⟩ := r461
  refine g_if_ne (fun c464 => ?_) (fun c464 => ?_)
  · refine g_aload_n rfl ?_
    refine g_iload_n rfl ?_
    refine g_invvv hIH457 sm_0 rfl rfl rfl rfl (s_214 a1 (by omega) H457 hIH457 hJH457) (fun H465 r466 => ?_)
    obtain ⟨hIH465, hJH465, w467, m468⟩ := r466
    have e469 : k0_2 = fZ H465 0 2 := e458.trans w467.symm
    have m470 : kpM H H465 := kpM_t m459 m468
    refine g_iconst (by decide) (fun v471 kv471 => ?_)
    refine g_istore_n (l' := [(0, .ref 0), (1, .int a1), (2, .int v471)]) rfl rfl ?_
    refine g_iconst (by decide) (fun v472 kv472 => ?_)
    refine g_istore_n (l' := [(0, .ref 0), (1, .int a1), (2, .int v471), (3, .int v472)]) rfl rfl ?_
    refine g_iconst (by decide) (fun v473 kv473 => ?_)
    refine g_istore (l' := [(0, .ref 0), (1, .int a1), (2, .int v471), (3, .int v472), (4, .int v473)]) rfl rfl ?_
    refine g_nop ?_
    have L477 : ∀ (N : Nat) (v474 : Int32) (v475 : Int32) (v476 : Int32), (-1 ≤ v475.toInt ∧ v475.toInt ≤ 7) → (0 ≤ v476.toInt ∧ v476.toInt ≤ 60) → (60 - v476.toInt).toNat < N → gG 6 zB_250 (mzBlk zB_250 2) [(0, .ref 0), (1, .int a1), (2, .int v474), (3, .int v475), (4, .int v476)] [] H465 0 0 (gRi (fun v H' => gI SM H' ∧ JN H' ∧ fZ H' 0 2 = fZ H 0 2 ∧ kpM H H')) := by
      intro N
      induction N with
      | zero => intro v474 v475 v476 bv475 bv476 hmL477; exact absurd hmL477 (Nat.not_lt_zero _)
      | succ N ihL477 =>
        intro v474 v475 v476 bv475 bv476 hmL477
        refine g_iload rfl ?_
        refine g_aload_n rfl ?_
        refine g_gfi hIH465 sm_0 rfl (fun v478 ev478 lv478 uv478 => ?_)
        refine g_if2_ge (fun c479 => ?_) (fun c479 => ?_)
        · refine g_aload_n rfl ?_
          refine g_gfi hIH465 sm_0 rfl (fun v480 ev480 lv480 uv480 => ?_)
          refine g_if_ne (fun c481 => ?_) (fun c481 => ?_)
          · refine g_iload_n rfl ?_
            refine g_nop ?_
            exact g_iret ⟨_, rfl, hIH465, (JM_n hJH465), (e469.symm.trans ek0_2), m470⟩
          · refine g_bipush (by decide) (fun v482 kv482 => ?_)
            refine g_goto ?_
            exact g_iret ⟨_, rfl, hIH465, (JM_n hJH465), (e469.symm.trans ek0_2), m470⟩
        · refine g_aload_n rfl ?_
          refine g_gfr hIH465 sm_0 rfl ?_
          refine g_iload rfl ?_
          refine g_iaload hIH465 sm_22 rfl (by omega) (fun v483 ev483 lv483 uv483 => ?_)
          refine g_istore (l' := [(0, .ref 0), (1, .int a1), (2, .int v474), (3, .int v475), (4, .int v476), (5, .int v483)]) rfl rfl ?_
          refine g_iload rfl ?_
          refine g_if_ge (fun c484 => ?_) (fun c484 => ?_)
          · refine g_iload_n rfl ?_
            refine g_iconst (by decide) (fun v485 kv485 => ?_)
            refine g_if2_eq (fun c486 => ?_) (fun c486 => ?_)
            · refine g_iload rfl ?_
              refine g_istore_n (l' := [(0, .ref 0), (1, .int a1), (2, .int v474), (3, .int v483), (4, .int v476), (5, .int v483)]) rfl rfl ?_
              refine g_nop ?_
              refine g_iinc (l' := (fun v487 => [(0, .ref 0), (1, .int a1), (2, .int v474), (3, .int v483), (4, .int v487), (5, .int v483)])) rfl rfl (by decide) (by omega) (fun _ => rfl) (fun v487 ev487 => ?_)
              refine g_goto ?_
              refine gG_pick [0, 1, 2, 3, 4] (l' := [(0, .ref 0), (1, .int a1), (2, .int v474), (3, .int v483), (4, .int v487)]) rfl ?_
              exact ihL477 v474 v483 v487 (by omega) (by omega) (by omega)
            · refine g_aload_n rfl ?_
              refine g_gfr hIH465 sm_0 rfl ?_
              refine g_bipush (by decide) (fun v488 kv488 => ?_)
              refine g_iload_n rfl ?_
              refine g_imulk' (n := 8) kv488 (by omega) (fun v489 ev489 => ?_)
              refine g_iload rfl ?_
              refine g_iadd (by omega) (fun v490 ev490 => ?_)
              refine g_iaload hIH465 sm_6 rfl (by omega) (fun v491 ev491 lv491 uv491 => ?_)
              refine g_ldc (by decide) (fun v492 kv492 => ?_)
              refine g_if2_ge (fun c493 => ?_) (fun c493 => ?_)
              · refine g_iload rfl ?_
                refine g_istore_n (l' := [(0, .ref 0), (1, .int a1), (2, .int v474), (3, .int v483), (4, .int v476), (5, .int v483)]) rfl rfl ?_
                refine g_nop ?_
                refine g_iinc (l' := (fun v494 => [(0, .ref 0), (1, .int a1), (2, .int v474), (3, .int v483), (4, .int v494), (5, .int v483)])) rfl rfl (by decide) (by omega) (fun _ => rfl) (fun v494 ev494 => ?_)
                refine g_goto ?_
                refine gG_pick [0, 1, 2, 3, 4] (l' := [(0, .ref 0), (1, .int a1), (2, .int v474), (3, .int v483), (4, .int v494)]) rfl ?_
                exact ihL477 v474 v483 v494 (by omega) (by omega) (by omega)
              · refine g_iload_n rfl ?_
                refine g_aload_n rfl ?_
                refine g_gfr hIH465 sm_0 rfl ?_
                refine g_bipush (by decide) (fun v495 kv495 => ?_)
                refine g_iload_n rfl ?_
                refine g_imulk' (n := 8) kv495 (by omega) (fun v496 ev496 => ?_)
                refine g_iload rfl ?_
                refine g_iadd (by omega) (fun v497 ev497 => ?_)
                refine g_iaload hIH465 sm_6 rfl (by omega) (fun v498 ev498 lv498 uv498 => ?_)
                refine g_iadd' (fun v499 ov499 => ?_)
                refine g_istore_n (l' := [(0, .ref 0), (1, .int a1), (2, .int v499), (3, .int v475), (4, .int v476), (5, .int v483)]) rfl rfl ?_
                refine g_nop ?_
                refine g_iload rfl ?_
                refine g_istore_n (l' := [(0, .ref 0), (1, .int a1), (2, .int v499), (3, .int v483), (4, .int v476), (5, .int v483)]) rfl rfl ?_
                refine g_nop ?_
                refine g_iinc (l' := (fun v500 => [(0, .ref 0), (1, .int a1), (2, .int v499), (3, .int v483), (4, .int v500), (5, .int v483)])) rfl rfl (by decide) (by omega) (fun _ => rfl) (fun v500 ev500 => ?_)
                refine g_goto ?_
                refine gG_pick [0, 1, 2, 3, 4] (l' := [(0, .ref 0), (1, .int a1), (2, .int v499), (3, .int v483), (4, .int v500)]) rfl ?_
                exact ihL477 v499 v483 v500 (by omega) (by omega) (by omega)
          · refine g_goto ?_
            refine g_iinc (l' := (fun v501 => [(0, .ref 0), (1, .int a1), (2, .int v474), (3, .int v475), (4, .int v501), (5, .int v483)])) rfl rfl (by decide) (by omega) (fun _ => rfl) (fun v501 ev501 => ?_)
            refine g_goto ?_
            refine gG_pick [0, 1, 2, 3, 4] (l' := [(0, .ref 0), (1, .int a1), (2, .int v474), (3, .int v475), (4, .int v501)]) rfl ?_
            exact ihL477 v474 v475 v501 (by omega) (by omega) (by omega)
    exact L477 _ v471 v472 v473 (by omega) (by omega) (Nat.lt_succ_self _)
  · refine g_iconst (by decide) (fun v502 kv502 => ?_)
    exact g_iret ⟨_, rfl, hIH457, hJH457, (e458.symm.trans ek0_2), m459⟩
set_option maxRecDepth 4000 in
set_option maxHeartbeats 4000000 in
/-- M.lates -/
theorem s_252 (H : mzH) (hI : gI SM H) (hJ : JN H) : gCall 252 [.ref 0] H (gRi (fun v H' => H = H')) := by
  refine gG_call [(0, .ref 0)] ⟨rfl, trivial⟩ ?_
  show gG 3 zB_252 (mzBlk zB_252 0) [(0, .ref 0)] [] H 0 0 _
  refine g_iconst (by decide) (fun v519 kv519 => ?_)
  refine g_istore_n (l' := [(0, .ref 0), (1, .int v519)]) rfl rfl ?_
  refine g_iconst (by decide) (fun v520 kv520 => ?_)
  refine g_istore_n (l' := [(0, .ref 0), (1, .int v519), (2, .int v520)]) rfl rfl ?_
  refine g_nop ?_
  have L523 : ∀ (N : Nat) (v521 : Int32) (v522 : Int32), (0 ≤ v522.toInt ∧ v522.toInt ≤ 60) → (60 - v522.toInt).toNat < N → gG 3 zB_252 (mzBlk zB_252 1) [(0, .ref 0), (1, .int v521), (2, .int v522)] [] H 0 0 (gRi (fun v H' => H = H')) := by
    intro N
    induction N with
    | zero => intro v521 v522 bv522 hmL523; exact absurd hmL523 (Nat.not_lt_zero _)
    | succ N ihL523 =>
      intro v521 v522 bv522 hmL523
      refine g_iload_n rfl ?_
      refine g_aload_n rfl ?_
      refine g_invvi hI sm_0 rfl rfl rfl rfl (s_180 H hI hJ) (fun v526 H524 r525 => ?_)
      obtain ⟨rfl, bv526, p527⟩ := r525
      refine g_if2_ge (fun c528 => ?_) (fun c528 => ?_)
      · refine g_iload_n rfl ?_
        exact g_iret ⟨_, rfl, rfl⟩
      · refine g_iload_n rfl ?_
        refine g_aload_n rfl ?_
        refine g_iload_n rfl ?_
        refine g_invvi hI sm_0 rfl rfl rfl rfl (s_204 v522 (by omega) H hI hJ) (fun v531 H529 r530 => ?_)
        obtain ⟨rfl, bv531⟩ := r530
        refine g_if_eq (fun c532 => ?_) (fun c532 => ?_)
        · refine g_iconst (by decide) (fun v533 kv533 => ?_)
          refine g_nop ?_
          refine g_iadd (by have := gz_any v521; omega) (fun v534 ev534 => ?_)
          refine g_istore_n (l' := [(0, .ref 0), (1, .int v534), (2, .int v522)]) rfl rfl ?_
          refine g_iinc (l' := (fun v535 => [(0, .ref 0), (1, .int v534), (2, .int v535)])) rfl rfl (by decide) (by omega) (fun _ => rfl) (fun v535 ev535 => ?_)
          refine g_goto ?_
          exact ihL523 v534 v535 (by omega) (by omega)
        · refine g_iconst (by decide) (fun v536 kv536 => ?_)
          refine g_goto ?_
          refine g_iadd' (fun v537 ov537 => ?_)
          refine g_istore_n (l' := [(0, .ref 0), (1, .int v537), (2, .int v522)]) rfl rfl ?_
          refine g_iinc (l' := (fun v538 => [(0, .ref 0), (1, .int v537), (2, .int v538)])) rfl rfl (by decide) (by omega) (fun _ => rfl) (fun v538 ev538 => ?_)
          refine g_goto ?_
          exact ihL523 v537 v538 (by omega) (by omega)
  exact L523 _ v519 v520 (by omega) (Nat.lt_succ_self _)
set_option maxRecDepth 4000 in
set_option maxHeartbeats 4000000 in
/-- M.count -/
theorem s_251 (a1 : Int32) (H : mzH) (hI : gI SM H) (hJ : JN H) : gCall 251 [.ref 0, .int a1] H (gRi (fun v H' => gI SM H' ∧ JN H' ∧ fZ H' 0 2 = fZ H 0 2 ∧ kpM H H')) := by
  obtain ⟨k0_2, ek0_2⟩ : ∃ z, z = fZ H 0 2 := ⟨_, rfl⟩
  have ik0_2 : k0_2.toInt = (fZ H 0 2).toInt := by rw [← ek0_2]
  have bk0_2 : 0 ≤ k0_2.toInt ∧ k0_2.toInt ≤ 900 := by rw [ek0_2]; exact fZ_of hI sm_0 rfl
  have mkfr : kpM H H := kpM_r
  refine gG_call [(0, .ref 0), (1, .int a1)] ⟨rfl, rfl, trivial⟩ ?_
  show gG 2 zB_251 (mzBlk zB_251 0) [(0, .ref 0), (1, .int a1)] [] H 0 0 _
  refine g_aload_n rfl ?_
  refine g_iconst (by decide) (fun v85 kv85 => ?_)
  refine g_pfi hI sm_0 rfl (gz_any _) (fun H86 eH86 hIH86 => ?_)
  have hJH86 : JN H86 := JN_sF eH86 hJ
  have e87 : k0_2 = fZ H86 0 2 := by rw [eH86, fZ_sF_ne (by decide)]; exact ek0_2
  have m88 : kpM H H86 := kpM_F mkfr eH86 (by omega)
  refine g_iload_n rfl ?_
  refine g_sw (by decide) (fun c89 => ?_) ⟨fun c89 => ?_, fun c89 => ?_, fun c89 => ?_, fun c89 => ?_, fun c89 => ?_, fun c89 => ?_, fun c89 => ?_, trivial⟩
  · refine g_iconst (by decide) (fun v90 kv90 => ?_)
    exact g_iret ⟨_, rfl, hIH86, hJH86, (e87.symm.trans ek0_2), m88⟩
  · refine g_aload_n rfl ?_
    refine g_gfr hIH86 sm_0 rfl ?_
    refine g_iconst (by decide) (fun v91 kv91 => ?_)
    refine g_iaload hIH86 sm_2 rfl (by omega) (fun v92 ev92 lv92 uv92 => ?_)
    have qv92 := JN_n20 hJH86 (v := v92) (by rw [ev92, show v91.toInt.toNat = 0 from by omega])
    exact g_iret ⟨_, rfl, hIH86, hJH86, (e87.symm.trans ek0_2), m88⟩
  · refine g_aload_n rfl ?_
    refine g_gfr hIH86 sm_0 rfl ?_
    refine g_iconst (by decide) (fun v93 kv93 => ?_)
    refine g_iaload hIH86 sm_2 rfl (by omega) (fun v94 ev94 lv94 uv94 => ?_)
    exact g_iret ⟨_, rfl, hIH86, hJH86, (e87.symm.trans ek0_2), m88⟩
  · refine g_aload_n rfl ?_
    refine g_invvi hIH86 sm_0 rfl rfl rfl rfl (s_180 H86 hIH86 hJH86) (fun v97 H95 r96 => ?_)
    obtain ⟨rfl, bv97, p98⟩ := r96
    exact g_iret ⟨_, rfl, hIH86, hJH86, (e87.symm.trans ek0_2), m88⟩
  · refine g_aload_n rfl ?_
    refine g_invvi hIH86 sm_0 rfl rfl rfl rfl (s_252 H86 hIH86 hJH86) (fun v101 H99 r100 => ?_)
    obtain rfl := r100
    exact g_iret ⟨_, rfl, hIH86, hJH86, (e87.symm.trans ek0_2), m88⟩
  · refine g_aload_n rfl ?_
    refine g_gfr hIH86 sm_0 rfl ?_
    refine g_iconst (by decide) (fun v102 kv102 => ?_)
    refine g_iaload hIH86 sm_2 rfl (by omega) (fun v103 ev103 lv103 uv103 => ?_)
    exact g_iret ⟨_, rfl, hIH86, hJH86, (e87.symm.trans ek0_2), m88⟩
  · refine g_aload_n rfl ?_
    refine g_gfr hIH86 sm_0 rfl ?_
    refine g_iconst (by decide) (fun v104 kv104 => ?_)
    refine g_iaload hIH86 sm_2 rfl (by omega) (fun v105 ev105 lv105 uv105 => ?_)
    exact g_iret ⟨_, rfl, hIH86, hJH86, (e87.symm.trans ek0_2), m88⟩
  · refine g_aload_n rfl ?_
    refine g_gfk hIH86 sm_0 rfl e87 ?_
    exact g_iret ⟨_, rfl, hIH86, hJH86, (e87.symm.trans ek0_2), m88⟩
