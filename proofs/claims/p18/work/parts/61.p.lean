set_option maxRecDepth 4000 in
set_option maxHeartbeats 4000000 in
/-- M.cause -/
theorem s_230 (a1 : Int32) (H : mzH) (hI : gI SM H) (hJ : JN H) : gCall 230 [.ref 0, .int a1] H (gRi (fun v H' => gI SM H' ∧ JN H' ∧ fZ H' 0 2 = fZ H 0 2 ∧ kpM H H')) := by
  obtain ⟨k0_2, ek0_2⟩ : ∃ z, z = fZ H 0 2 := ⟨_, rfl⟩
  have ik0_2 : k0_2.toInt = (fZ H 0 2).toInt := by rw [← ek0_2]
  have bk0_2 : 0 ≤ k0_2.toInt ∧ k0_2.toInt ≤ 900 := by rw [ek0_2]; exact fZ_of hI sm_0 rfl
  have mkfr : kpM H H := kpM_r
  refine gG_call [(0, .ref 0), (1, .int a1)] ⟨rfl, rfl, trivial⟩ ?_
  show gG 3 zB_230 (mzBlk zB_230 0) [(0, .ref 0), (1, .int a1)] [] H 0 0 _
  refine g_aload_n rfl ?_
  refine g_iconst (by decide) (fun v397 kv397 => ?_)
  refine g_pfi hI sm_0 rfl (gz_any _) (fun H398 eH398 hIH398 => ?_)
  have hJH398 : JN H398 := JN_sF eH398 hJ
  have e399 : k0_2 = fZ H398 0 2 := by rw [eH398, fZ_sF_ne (by decide)]; exact ek0_2
  have m400 : kpM H H398 := kpM_F mkfr eH398 (by omega)
  refine g_iload_n rfl ?_
  refine g_if_lt (fun c401 => ?_) (fun c401 => ?_)
  · refine g_iconst (by decide) (fun v402 kv402 => ?_)
    exact g_iret ⟨_, rfl, hIH398, hJH398, (e399.symm.trans ek0_2), m400⟩
  · refine g_iload_n rfl ?_
    refine g_aload_n rfl ?_
    refine g_invvi hIH398 sm_0 rfl rfl rfl rfl (s_180 H398 hIH398 hJH398) (fun v405 H403 r404 => ?_)
    obtain ⟨rfl, bv405, p406⟩ := r404
    refine g_if2_lt (fun c407 => ?_) (fun c407 => ?_)
    · refine g_aload_n rfl ?_
      refine g_iload_n rfl ?_
      refine g_invvi hIH398 sm_0 rfl rfl rfl rfl (s_229 a1 (by omega) H398 hIH398 hJH398) (fun v410 H408 r409 => ?_)
      obtain ⟨hIH408, hJH408, bv410, w411, m412⟩ := r409
      have e413 : k0_2 = fZ H408 0 2 := e399.trans w411.symm
      have m414 : kpM H H408 := kpM_t m400 m412
      refine g_if_ne (fun c415 => ?_) (fun c415 => ?_)
      · refine g_iconst (by decide) (fun v416 kv416 => ?_)
        refine g_istore_n (l' := [(0, .ref 0), (1, .int a1), (2, .int v416)]) rfl rfl ?_
        refine g_nop ?_
        have L421 : ∀ (N : Nat) (v417 : Int32) (H418 : mzH), gI SM H418 → JN H418 → k0_2 = fZ H418 0 2 → kpM H H418 → (0 ≤ v417.toInt ∧ v417.toInt ≤ 60) → (60 - v417.toInt).toNat < N → gG 3 zB_230 (mzBlk zB_230 4) [(0, .ref 0), (1, .int a1), (2, .int v417)] [] H418 0 0 (gRi (fun v H' => gI SM H' ∧ JN H' ∧ fZ H' 0 2 = fZ H 0 2 ∧ kpM H H')) := by
          intro N
          induction N with
          | zero => intro v417 H418 hIH418 hJH418 e419 m420 bv417 hmL421; exact absurd hmL421 (Nat.not_lt_zero _)
          | succ N ihL421 =>
            intro v417 H418 hIH418 hJH418 e419 m420 bv417 hmL421
            refine g_iload_n rfl ?_
            refine g_aload_n rfl ?_
            refine g_invvi hIH418 sm_0 rfl rfl rfl rfl (s_180 H418 hIH418 hJH418) (fun v424 H422 r423 => ?_)
            obtain ⟨rfl, bv424, p425⟩ := r423
            refine g_if2_ge (fun c426 => ?_) (fun c426 => ?_)
            · refine g_bipush (by decide) (fun v427 kv427 => ?_)
              exact g_iret ⟨_, rfl, hIH418, hJH418, (e419.symm.trans ek0_2), m420⟩
            · refine g_iload_n rfl ?_
              refine g_iload_n rfl ?_
              refine g_if2_ne (fun c428 => ?_) (fun c428 => ?_)
              · refine g_aload_n rfl ?_
                refine g_iload_n rfl ?_
                refine g_iconst (by decide) (fun v429 kv429 => ?_)
                refine g_invvv hIH418 sm_0 rfl rfl rfl rfl (s_222 v417 (by omega) v429 (by omega) H418 hIH418 hJH418) (fun H430 r431 => ?_)
                obtain ⟨hIH430, hJH430, w432, w433, w434, w435, m436⟩ := r431
                have e437 : k0_2 = fZ H430 0 2 := e419.trans w432.symm
                have m438 : kpM H H430 := kpM_t m420 m436
                refine g_aload_n rfl ?_
                refine g_gfr hIH430 sm_0 rfl ?_
                refine g_iload_n rfl ?_
                refine g_iaload hIH430 sm_20 rfl (by omega) (fun v439 ev439 lv439 uv439 => ?_)
                refine g_if_ne (fun c440 => ?_) (fun c440 => ?_)
                · refine g_iinc (l' := (fun v441 => [(0, .ref 0), (1, .int a1), (2, .int v441)])) rfl rfl (by decide) (by omega) (fun _ => rfl) (fun v441 ev441 => ?_)
                  refine g_goto ?_
                  exact ihL421 v441 H430 hIH430 (JM_n hJH430) e437 m438 (by omega) (by omega)
                · refine g_iload_n rfl ?_
                  exact g_iret ⟨_, rfl, hIH430, (JM_n hJH430), (e437.symm.trans ek0_2), m438⟩
              · refine g_goto ?_
                refine g_iinc (l' := (fun v442 => [(0, .ref 0), (1, .int a1), (2, .int v442)])) rfl rfl (by decide) (by omega) (fun _ => rfl) (fun v442 ev442 => ?_)
                refine g_goto ?_
                exact ihL421 v442 H418 hIH418 hJH418 e419 m420 (by omega) (by omega)
        exact L421 _ v416 H408 hIH408 hJH408 e413 m414 (by omega) (Nat.lt_succ_self _)
      · refine g_bipush (by decide) (fun v443 kv443 => ?_)
        exact g_iret ⟨_, rfl, hIH408, hJH408, (e413.symm.trans ek0_2), m414⟩
    · refine g_nop ?_
      refine g_iconst (by decide) (fun v444 kv444 => ?_)
      exact g_iret ⟨_, rfl, hIH398, hJH398, (e399.symm.trans ek0_2), m400⟩
set_option maxRecDepth 4000 in
set_option maxHeartbeats 4000000 in
/-- M.needs -/
theorem s_231 (a1 : Int32) (a2 : Int32) (H : mzH) (hI : gI SM H) (hJ : JN H) : gCall 231 [.ref 0, .int a1, .int a2] H (gRi (fun v H' => gI SM H' ∧ JN H' ∧ fZ H' 0 2 = fZ H 0 2 ∧ kpM H H')) := by
  obtain ⟨k0_2, ek0_2⟩ : ∃ z, z = fZ H 0 2 := ⟨_, rfl⟩
  have ik0_2 : k0_2.toInt = (fZ H 0 2).toInt := by rw [← ek0_2]
  have bk0_2 : 0 ≤ k0_2.toInt ∧ k0_2.toInt ≤ 900 := by rw [ek0_2]; exact fZ_of hI sm_0 rfl
  have mkfr : kpM H H := kpM_r
  refine gG_call [(0, .ref 0), (1, .int a1), (2, .int a2)] ⟨rfl, rfl, rfl, trivial⟩ ?_
  show gG 5 zB_231 (mzBlk zB_231 0) [(0, .ref 0), (1, .int a1), (2, .int a2)] [] H 0 0 _
  refine g_aload_n rfl ?_
  refine g_iconst (by decide) (fun v475 kv475 => ?_)
  refine g_pfi hI sm_0 rfl (gz_any _) (fun H476 eH476 hIH476 => ?_)
  have hJH476 : JN H476 := JN_sF eH476 hJ
  have e477 : k0_2 = fZ H476 0 2 := by rw [eH476, fZ_sF_ne (by decide)]; exact ek0_2
  have m478 : kpM H H476 := kpM_F mkfr eH476 (by omega)
  refine g_iload_n rfl ?_
  refine g_if_lt (fun c479 => ?_) (fun c479 => ?_)
  · refine g_iconst (by decide) (fun v480 kv480 => ?_)
    exact g_iret ⟨_, rfl, hIH476, hJH476, (e477.symm.trans ek0_2), m478⟩
  · refine g_iload_n rfl ?_
    refine g_aload_n rfl ?_
    refine g_invvi hIH476 sm_0 rfl rfl rfl rfl (s_180 H476 hIH476 hJH476) (fun v483 H481 r482 => ?_)
    obtain ⟨rfl, bv483, p484⟩ := r482
    refine g_if2_ge (fun c485 => ?_) (fun c485 => ?_)
    · refine g_iconst (by decide) (fun v486 kv486 => ?_)
      exact g_iret ⟨_, rfl, hIH476, hJH476, (e477.symm.trans ek0_2), m478⟩
    · refine g_iload_n rfl ?_
      refine g_if_ge (fun c487 => ?_) (fun c487 => ?_)
      · refine g_aload_n rfl ?_
        refine g_iload_n rfl ?_
        refine g_invvi hIH476 sm_0 rfl rfl rfl rfl (s_229 a1 (by omega) H476 hIH476 hJH476) (fun v490 H488 r489 => ?_)
        obtain ⟨hIH488, hJH488, bv490, w491, m492⟩ := r489
        have e493 : k0_2 = fZ H488 0 2 := e477.trans w491.symm
        have m494 : kpM H H488 := kpM_t m478 m492
        refine g_if_eq (fun c495 => ?_) (fun c495 => ?_)
        · refine g_iload_n rfl ?_
          refine g_istore_n (l' := [(0, .ref 0), (1, .int a1), (2, .int a2), (3, .int a2)]) rfl rfl ?_
          refine g_iconst (by decide) (fun v496 kv496 => ?_)
          refine g_istore (l' := [(0, .ref 0), (1, .int a1), (2, .int a2), (3, .int a2), (4, .int v496)]) rfl rfl ?_
          refine g_nop ?_
          have L502 : ∀ (N : Nat) (v497 : Int32) (v498 : Int32) (H499 : mzH), gI SM H499 → JN H499 → k0_2 = fZ H499 0 2 → kpM H H499 → (0 ≤ v497.toInt ∧ v497.toInt ≤ 2147483647) → (0 ≤ v498.toInt ∧ v498.toInt ≤ 60) → (60 - v498.toInt).toNat < N → gG 5 zB_231 (mzBlk zB_231 4) [(0, .ref 0), (1, .int a1), (2, .int a2), (3, .int v497), (4, .int v498)] [] H499 0 0 (gRi (fun v H' => gI SM H' ∧ JN H' ∧ fZ H' 0 2 = fZ H 0 2 ∧ kpM H H')) := by
            intro N
            induction N with
            | zero => intro v497 v498 H499 hIH499 hJH499 e500 m501 bv497 bv498 hmL502; exact absurd hmL502 (Nat.not_lt_zero _)
            | succ N ihL502 =>
              intro v497 v498 H499 hIH499 hJH499 e500 m501 bv497 bv498 hmL502
              refine g_iload rfl ?_
              refine g_aload_n rfl ?_
              refine g_invvi hIH499 sm_0 rfl rfl rfl rfl (s_180 H499 hIH499 hJH499) (fun v505 H503 r504 => ?_)
              obtain ⟨rfl, bv505, p506⟩ := r504
              refine g_if2_ge (fun c507 => ?_) (fun c507 => ?_)
              · refine g_bipush (by decide) (fun v508 kv508 => ?_)
                exact g_iret ⟨_, rfl, hIH499, hJH499, (e500.symm.trans ek0_2), m501⟩
              · refine g_iload rfl ?_
                refine g_iload_n rfl ?_
                refine g_if2_ne (fun c509 => ?_) (fun c509 => ?_)
                · refine g_aload_n rfl ?_
                  refine g_iload rfl ?_
                  refine g_iconst (by decide) (fun v510 kv510 => ?_)
                  refine g_invvv hIH499 sm_0 rfl rfl rfl rfl (s_222 v498 (by omega) v510 (by omega) H499 hIH499 hJH499) (fun H511 r512 => ?_)
                  obtain ⟨hIH511, hJH511, w513, w514, w515, w516, m517⟩ := r512
                  have e518 : k0_2 = fZ H511 0 2 := e500.trans w513.symm
                  have m519 : kpM H H511 := kpM_t m501 m517
                  refine g_aload_n rfl ?_
                  refine g_gfr hIH511 sm_0 rfl ?_
                  refine g_iload_n rfl ?_
                  refine g_iaload hIH511 sm_20 rfl (by omega) (fun v520 ev520 lv520 uv520 => ?_)
                  refine g_if_ne (fun c521 => ?_) (fun c521 => ?_)
                  · refine g_iload_n rfl ?_
                    refine g_if_ne (fun c522 => ?_) (fun c522 => ?_)
                    · refine g_iinc (l' := (fun v523 => [(0, .ref 0), (1, .int a1), (2, .int a2), (3, .int v523), (4, .int v498)])) rfl rfl (by decide) (by have := gz_any v497; omega) (fun _ => rfl) (fun v523 ev523 => ?_)
                      refine g_nop ?_
                      refine g_iinc (l' := (fun v524 => [(0, .ref 0), (1, .int a1), (2, .int a2), (3, .int v523), (4, .int v524)])) rfl rfl (by decide) (by omega) (fun _ => rfl) (fun v524 ev524 => ?_)
                      refine g_goto ?_
                      exact ihL502 v523 v524 H511 hIH511 (JM_n hJH511) e518 m519 (by have := gz_any v523; omega) (by omega) (by omega)
                    · refine g_iload rfl ?_
                      exact g_iret ⟨_, rfl, hIH511, (JM_n hJH511), (e518.symm.trans ek0_2), m519⟩
                  · refine g_goto ?_
                    refine g_iinc (l' := (fun v525 => [(0, .ref 0), (1, .int a1), (2, .int a2), (3, .int v497), (4, .int v525)])) rfl rfl (by decide) (by omega) (fun _ => rfl) (fun v525 ev525 => ?_)
                    refine g_goto ?_
                    exact ihL502 v497 v525 H511 hIH511 (JM_n hJH511) e518 m519 (by have := gz_any v497; omega) (by omega) (by omega)
                · refine g_goto ?_
                  refine g_iinc (l' := (fun v526 => [(0, .ref 0), (1, .int a1), (2, .int a2), (3, .int v497), (4, .int v526)])) rfl rfl (by decide) (by omega) (fun _ => rfl) (fun v526 ev526 => ?_)
                  refine g_goto ?_
                  exact ihL502 v497 v526 H499 hIH499 hJH499 e500 m501 (by have := gz_any v497; omega) (by omega) (by omega)
          exact L502 _ a2 v496 H488 hIH488 hJH488 e493 m494 (by have := gz_any a2; omega) (by omega) (Nat.lt_succ_self _)
        · refine g_bipush (by decide) (fun v527 kv527 => ?_)
          exact g_iret ⟨_, rfl, hIH488, hJH488, (e493.symm.trans ek0_2), m494⟩
      · refine g_nop ?_
        refine g_iconst (by decide) (fun v528 kv528 => ?_)
        exact g_iret ⟨_, rfl, hIH476, hJH476, (e477.symm.trans ek0_2), m478⟩
set_option maxRecDepth 4000 in
set_option maxHeartbeats 4000000 in
/-- M.runsAt -/
theorem s_232 (a1 : Int32) (ha1 : 0 ≤ a1.toInt ∧ a1.toInt ≤ 59) (a2 : Int32) (H : mzH) (hI : gI SM H) (hJ : JN H) : gCall 232 [.ref 0, .int a1, .int a2] H (gRv (fun H' => gI SM H' ∧ JM H' ∧ fZ H' 0 2 = fZ H 0 2 ∧ kpM H H')) := by
  obtain ⟨k0_2, ek0_2⟩ : ∃ z, z = fZ H 0 2 := ⟨_, rfl⟩
  have ik0_2 : k0_2.toInt = (fZ H 0 2).toInt := by rw [← ek0_2]
  have bk0_2 : 0 ≤ k0_2.toInt ∧ k0_2.toInt ≤ 900 := by rw [ek0_2]; exact fZ_of hI sm_0 rfl
  have mkfr : kpM H H := kpM_r
  refine gG_call [(0, .ref 0), (1, .int a1), (2, .int a2)] ⟨rfl, rfl, rfl, trivial⟩ ?_
  show gG 3 zB_232 (mzBlk zB_232 0) [(0, .ref 0), (1, .int a1), (2, .int a2)] [] H 0 0 _
  refine g_aload_n rfl ?_
  refine g_invvv hI sm_0 rfl rfl rfl rfl (s_182 H hI hJ) (fun H97 r98 => ?_)
  obtain ⟨hIH97, hJH97, m99, m100, m101, p102⟩ := r98
  have e103 : k0_2 = fZ H97 0 2 := ek0_2.trans (m99 0 2).symm
  have m104 : kpM H H97 := kpM_t mkfr m101
  refine g_aload_n rfl ?_
  refine g_gfr hIH97 sm_0 rfl ?_
  refine g_iload_n rfl ?_
  refine g_iload_n rfl ?_
  refine g_iastore hIH97 sm_18 (by omega) (gz_any _) (fun H105 eH105 hIH105 => ?_)
  have hJH105 : JN H105 := JN_sA (by decide) eH105 hJH97
  have e106 : k0_2 = fZ H105 0 2 := by rw [eH105, fZ_sA]; exact e103
  have m107 : kpM H H105 := kpM_A m104 eH105 (by omega)
  refine g_aload_n rfl ?_
  refine g_sipush (by decide) (fun v108 kv108 => ?_)
  refine g_invvv hIH105 sm_0 rfl rfl rfl rfl (s_198 v108 H105 hIH105 hJH105) (fun H109 r110 => ?_)
  obtain ⟨hIH109, hJH109, w111, w112, w113, w114, m115, m116, m117, p118⟩ := r110
  have e119 : k0_2 = fZ H109 0 2 := e106.trans w111.symm
  have m120 : kpM H H109 := kpM_t m107 m117
  exact g_ret ⟨rfl, hIH109, hJH109, (e119.symm.trans ek0_2), m120⟩
set_option maxRecDepth 4000 in
set_option maxHeartbeats 4000000 in
/-- M.ifAt -/
theorem s_233 (a1 : Int32) (a2 : Int32) (a3 : Int32) (H : mzH) (hI : gI SM H) (hJ : JN H) : gCall 233 [.ref 0, .int a1, .int a2, .int a3] H (gRi (fun v H' => gI SM H' ∧ JN H' ∧ fZ H' 0 2 = fZ H 0 2 ∧ kpM H H')) := by
  obtain ⟨k0_2, ek0_2⟩ : ∃ z, z = fZ H 0 2 := ⟨_, rfl⟩
  have ik0_2 : k0_2.toInt = (fZ H 0 2).toInt := by rw [← ek0_2]
  have bk0_2 : 0 ≤ k0_2.toInt ∧ k0_2.toInt ≤ 900 := by rw [ek0_2]; exact fZ_of hI sm_0 rfl
  have mkfr : kpM H H := kpM_r
  refine gG_call [(0, .ref 0), (1, .int a1), (2, .int a2), (3, .int a3)] ⟨rfl, rfl, rfl, rfl, trivial⟩ ?_
  show gG 4 zB_233 (mzBlk zB_233 0) [(0, .ref 0), (1, .int a1), (2, .int a2), (3, .int a3)] [] H 0 0 _
  refine g_aload_n rfl ?_
  refine g_iconst (by decide) (fun v189 kv189 => ?_)
  refine g_pfi hI sm_0 rfl (gz_any _) (fun H190 eH190 hIH190 => ?_)
  have hJH190 : JN H190 := JN_sF eH190 hJ
  have e191 : k0_2 = fZ H190 0 2 := by rw [eH190, fZ_sF_ne (by decide)]; exact ek0_2
  have m192 : kpM H H190 := kpM_F mkfr eH190 (by omega)
  refine g_iload_n rfl ?_
  refine g_if_lt (fun c193 => ?_) (fun c193 => ?_)
  · refine g_sipush (by decide) (fun v194 kv194 => ?_)
    exact g_iret ⟨_, rfl, hIH190, hJH190, (e191.symm.trans ek0_2), m192⟩
  · refine g_iload_n rfl ?_
    refine g_aload_n rfl ?_
    refine g_invvi hIH190 sm_0 rfl rfl rfl rfl (s_180 H190 hIH190 hJH190) (fun v197 H195 r196 => ?_)
    obtain ⟨rfl, bv197, p198⟩ := r196
    refine g_if2_ge (fun c199 => ?_) (fun c199 => ?_)
    · refine g_sipush (by decide) (fun v200 kv200 => ?_)
      exact g_iret ⟨_, rfl, hIH190, hJH190, (e191.symm.trans ek0_2), m192⟩
    · refine g_iload_n rfl ?_
      refine g_invti rfl rfl rfl (s_206 a2 H190 hIH190 hJH190) (fun v203 H201 r202 => ?_)
      obtain ⟨rfl, bv203⟩ := r202
      refine g_if_eq (fun c204 => ?_) (fun c204 => ?_)
      · refine g_sipush (by decide) (fun v205 kv205 => ?_)
        exact g_iret ⟨_, rfl, hIH190, hJH190, (e191.symm.trans ek0_2), m192⟩
      · refine g_iload_n rfl ?_
        refine g_iconst (by decide) (fun v206 kv206 => ?_)
        refine g_if2_eq (fun c207 => ?_) (fun c207 => ?_)
        · refine g_aload_n rfl ?_
          refine g_iload_n rfl ?_
          refine g_iload_n rfl ?_
          refine g_invvv hIH190 sm_0 rfl rfl rfl rfl (s_232 a1 (by omega) a2 H190 hIH190 hJH190) (fun H208 r209 => ?_)
          obtain ⟨hIH208, hJH208, w210, m211⟩ := r209
          have e212 : k0_2 = fZ H208 0 2 := e191.trans w210.symm
          have m213 : kpM H H208 := kpM_t m192 m211
          refine g_iload_n rfl ?_
          refine g_iconst (by decide) (fun v214 kv214 => ?_)
          refine g_if2_ne (fun c215 => ?_) (fun c215 => ?_)
          · exfalso; omega
          · refine g_aload_n rfl ?_
            refine g_invvi hIH208 sm_0 rfl rfl rfl rfl (s_224 H208 hIH208 (JM_n hJH208)) (fun v218 H216 r217 => ?_)
            obtain rfl := r217
            refine g_goto ?_
            exact g_iret ⟨_, rfl, hIH208, (JM_n hJH208), (e212.symm.trans ek0_2), m213⟩
        · refine g_iload_n rfl ?_
          refine g_invti rfl rfl rfl (s_205 a3 H190 hIH190 hJH190) (fun v221 H219 r220 => ?_)
          obtain ⟨rfl, bv221, p222⟩ := r220
          refine g_if_ne (fun c223 => ?_) (fun c223 => ?_)
          · refine g_aload_n rfl ?_
            refine g_iload_n rfl ?_
            refine g_iload_n rfl ?_
            refine g_invvv hIH190 sm_0 rfl rfl rfl rfl (s_232 a1 (by omega) a2 H190 hIH190 hJH190) (fun H224 r225 => ?_)
            obtain ⟨hIH224, hJH224, w226, m227⟩ := r225
            have e228 : k0_2 = fZ H224 0 2 := e191.trans w226.symm
            have m229 : kpM H H224 := kpM_t m192 m227
            refine g_iload_n rfl ?_
            refine g_iconst (by decide) (fun v230 kv230 => ?_)
            refine g_if2_ne (fun c231 => ?_) (fun c231 => ?_)
            · refine g_aload_n rfl ?_
              refine g_iload_n rfl ?_
              refine g_invvi hIH224 sm_0 rfl rfl rfl rfl (s_201 a3 (by omega) H224 hIH224 hJH224) (fun v234 H232 r233 => ?_)
              obtain ⟨rfl, bv234⟩ := r233
              refine g_nop ?_
              exact g_iret ⟨_, rfl, hIH224, (JM_n hJH224), (e228.symm.trans ek0_2), m229⟩
            · exfalso; omega
          · refine g_nop ?_
            refine g_sipush (by decide) (fun v235 kv235 => ?_)
            exact g_iret ⟨_, rfl, hIH190, hJH190, (e191.symm.trans ek0_2), m192⟩
set_option maxRecDepth 4000 in
set_option maxHeartbeats 4000000 in
/-- M.window -/
theorem s_234 (a1 : Int32) (a2 : Int32) (H : mzH) (hI : gI SM H) (hJ : JN H) : gCall 234 [.ref 0, .int a1, .int a2] H (gRi (fun v H' => gI SM H' ∧ JN H' ∧ fZ H' 0 2 = fZ H 0 2 ∧ kpM H H')) := by
  obtain ⟨k0_2, ek0_2⟩ : ∃ z, z = fZ H 0 2 := ⟨_, rfl⟩
  have ik0_2 : k0_2.toInt = (fZ H 0 2).toInt := by rw [← ek0_2]
  have bk0_2 : 0 ≤ k0_2.toInt ∧ k0_2.toInt ≤ 900 := by rw [ek0_2]; exact fZ_of hI sm_0 rfl
  have mkfr : kpM H H := kpM_r
  refine gG_call [(0, .ref 0), (1, .int a1), (2, .int a2)] ⟨rfl, rfl, rfl, trivial⟩ ?_
  show gG 7 zB_234 (mzBlk zB_234 0) [(0, .ref 0), (1, .int a1), (2, .int a2)] [] H 0 0 _
  refine g_aload_n rfl ?_
  refine g_iconst (by decide) (fun v731 kv731 => ?_)
  refine g_pfi hI sm_0 rfl (gz_any _) (fun H732 eH732 hIH732 => ?_)
  have hJH732 : JN H732 := JN_sF eH732 hJ
  have e733 : k0_2 = fZ H732 0 2 := by rw [eH732, fZ_sF_ne (by decide)]; exact ek0_2
  have m734 : kpM H H732 := kpM_F mkfr eH732 (by omega)
  refine g_iload_n rfl ?_
  refine g_if_lt (fun c735 => ?_) (fun c735 => ?_)
  · refine g_iconst (by decide) (fun v736 kv736 => ?_)
    exact g_iret ⟨_, rfl, hIH732, hJH732, (e733.symm.trans ek0_2), m734⟩
  · refine g_iload_n rfl ?_
    refine g_aload_n rfl ?_
    refine g_invvi hIH732 sm_0 rfl rfl rfl rfl (s_180 H732 hIH732 hJH732) (fun v739 H737 r738 => ?_)
    obtain ⟨rfl, bv739, p740⟩ := r738
    refine g_if2_ge (fun c741 => ?_) (fun c741 => ?_)
    · refine g_iconst (by decide) (fun v742 kv742 => ?_)
      exact g_iret ⟨_, rfl, hIH732, hJH732, (e733.symm.trans ek0_2), m734⟩
    · refine g_iload_n rfl ?_
      refine g_if_lt (fun c743 => ?_) (fun c743 => ?_)
      · refine g_iconst (by decide) (fun v744 kv744 => ?_)
        exact g_iret ⟨_, rfl, hIH732, hJH732, (e733.symm.trans ek0_2), m734⟩
      · refine g_iload_n rfl ?_
        refine g_iconst (by decide) (fun v745 kv745 => ?_)
        refine g_if2_le (fun c746 => ?_) (fun c746 => ?_)
        · refine g_bipush (by decide) (fun v747 kv747 => ?_)
          refine g_istore_n (l' := [(0, .ref 0), (1, .int a1), (2, .int a2), (3, .int v747)]) rfl rfl ?_
          refine g_bipush (by decide) (fun v748 kv748 => ?_)
          refine g_istore (l' := [(0, .ref 0), (1, .int a1), (2, .int a2), (3, .int v747), (4, .int v748)]) rfl rfl ?_
          refine g_iconst (by decide) (fun v749 kv749 => ?_)
          refine g_istore (l' := [(0, .ref 0), (1, .int a1), (2, .int a2), (3, .int v747), (4, .int v748), (5, .int v749)]) rfl rfl ?_
          refine g_iconst (by decide) (fun v750 kv750 => ?_)
          refine g_istore (l' := [(0, .ref 0), (1, .int a1), (2, .int a2), (3, .int v747), (4, .int v748), (5, .int v749), (6, .int v750)]) rfl rfl ?_
          refine g_nop ?_
          have L758 : ∀ (N : Nat) (v751 : Int32) (v752 : Int32) (v753 : Int32) (v754 : Int32) (H755 : mzH), gI SM H755 → JN H755 → k0_2 = fZ H755 0 2 → kpM H H755 → (-2 ≤ v751.toInt ∧ v751.toInt ≤ 999) → (-2 ≤ v752.toInt ∧ v752.toInt ≤ 999) → (0 ≤ v754.toInt ∧ v754.toInt ≤ 1000) → (1000 - v754.toInt).toNat < N → gG 7 zB_234 (mzBlk zB_234 3) [(0, .ref 0), (1, .int a1), (2, .int a2), (3, .int v751), (4, .int v752), (5, .int v753), (6, .int v754)] [] H755 0 0 (gRi (fun v H' => gI SM H' ∧ JN H' ∧ fZ H' 0 2 = fZ H 0 2 ∧ kpM H H')) := by
            intro N
            induction N with
            | zero => intro v751 v752 v753 v754 H755 hIH755 hJH755 e756 m757 bv751 bv752 bv754 hmL758; exact absurd hmL758 (Nat.not_lt_zero _)
            | succ N ihL758 =>
              intro v751 v752 v753 v754 H755 hIH755 hJH755 e756 m757 bv751 bv752 bv754 hmL758
              refine g_iload rfl ?_
              refine g_sipush (by decide) (fun v759 kv759 => ?_)
              refine g_if2_gt (fun c760 => ?_) (fun c760 => ?_)
              · refine g_iload_n rfl ?_
                refine g_if_ne (fun c761 => ?_) (fun c761 => ?_)
                · refine g_iload_n rfl ?_
                  refine g_iconst (by decide) (fun v762 kv762 => ?_)
                  refine g_if2_ne (fun c763 => ?_) (fun c763 => ?_)
                  · refine g_iload rfl ?_
                    refine g_nop ?_
                    exact g_iret ⟨_, rfl, hIH755, hJH755, (e756.symm.trans ek0_2), m757⟩
                  · refine g_iload rfl ?_
                    refine g_goto ?_
                    exact g_iret ⟨_, rfl, hIH755, hJH755, (e756.symm.trans ek0_2), m757⟩
                · refine g_iload_n rfl ?_
                  refine g_goto ?_
                  exact g_iret ⟨_, rfl, hIH755, hJH755, (e756.symm.trans ek0_2), m757⟩
              · refine g_aload_n rfl ?_
                refine g_iload_n rfl ?_
                refine g_iload rfl ?_
                refine g_invvv hIH755 sm_0 rfl rfl rfl rfl (s_232 a1 (by omega) v754 H755 hIH755 hJH755) (fun H764 r765 => ?_)
                obtain ⟨hIH764, hJH764, w766, m767⟩ := r765
                have e768 : k0_2 = fZ H764 0 2 := e756.trans w766.symm
                have m769 : kpM H H764 := kpM_t m757 m767
                refine g_aload_n rfl ?_
                refine g_gfr hIH764 sm_0 rfl ?_
                refine g_iload_n rfl ?_
                refine g_iaload hIH764 sm_20 rfl (by omega) (fun v770 ev770 lv770 uv770 => ?_)
                refine g_if_eq (fun c771 => ?_) (fun c771 => ?_)
                · refine g_iload rfl ?_
                  refine g_if_ne (fun c772 => ?_) (fun c772 => ?_)
                  · refine g_iload_n rfl ?_
                    refine g_nop ?_
                    refine g_istore_n (l' := [(0, .ref 0), (1, .int a1), (2, .int a2), (3, .int v751), (4, .int v752), (5, .int v753), (6, .int v754)]) rfl rfl ?_
                    refine g_iload rfl ?_
                    refine g_istore (l' := [(0, .ref 0), (1, .int a1), (2, .int a2), (3, .int v751), (4, .int v754), (5, .int v753), (6, .int v754)]) rfl rfl ?_
                    refine g_iinc' (l' := (fun v773 => [(0, .ref 0), (1, .int a1), (2, .int a2), (3, .int v751), (4, .int v754), (5, .int v773), (6, .int v754)])) rfl rfl (fun _ => rfl) (fun v773 => ?_)
                    refine g_nop ?_
                    refine g_iinc (l' := (fun v774 => [(0, .ref 0), (1, .int a1), (2, .int a2), (3, .int v751), (4, .int v754), (5, .int v773), (6, .int v774)])) rfl rfl (by decide) (by omega) (fun _ => rfl) (fun v774 ev774 => ?_)
                    refine g_goto ?_
                    exact ihL758 v751 v754 v773 v774 H764 hIH764 (JM_n hJH764) e768 m769 (by omega) (by omega) (by omega) (by omega)
                  · refine g_iload rfl ?_
                    refine g_goto ?_
                    refine g_istore_n (l' := [(0, .ref 0), (1, .int a1), (2, .int a2), (3, .int v754), (4, .int v752), (5, .int v753), (6, .int v754)]) rfl rfl ?_
                    refine g_iload rfl ?_
                    refine g_istore (l' := [(0, .ref 0), (1, .int a1), (2, .int a2), (3, .int v754), (4, .int v754), (5, .int v753), (6, .int v754)]) rfl rfl ?_
                    refine g_iinc (l' := (fun v775 => [(0, .ref 0), (1, .int a1), (2, .int a2), (3, .int v754), (4, .int v754), (5, .int v775), (6, .int v754)])) rfl rfl (by decide) (by omega) (fun _ => rfl) (fun v775 ev775 => ?_)
                    refine g_nop ?_
                    refine g_iinc (l' := (fun v776 => [(0, .ref 0), (1, .int a1), (2, .int a2), (3, .int v754), (4, .int v754), (5, .int v775), (6, .int v776)])) rfl rfl (by decide) (by omega) (fun _ => rfl) (fun v776 ev776 => ?_)
                    refine g_goto ?_
                    exact ihL758 v754 v754 v775 v776 H764 hIH764 (JM_n hJH764) e768 m769 (by omega) (by omega) (by omega) (by omega)
                · refine g_goto ?_
                  refine g_iinc (l' := (fun v777 => [(0, .ref 0), (1, .int a1), (2, .int a2), (3, .int v751), (4, .int v752), (5, .int v753), (6, .int v777)])) rfl rfl (by decide) (by omega) (fun _ => rfl) (fun v777 ev777 => ?_)
                  refine g_goto ?_
                  exact ihL758 v751 v752 v753 v777 H764 hIH764 (JM_n hJH764) e768 m769 (by omega) (by omega) (by omega) (by omega)
          exact L758 _ v747 v748 v749 v750 H732 hIH732 hJH732 e733 m734 (by omega) (by omega) (by omega) (Nat.lt_succ_self _)
        · refine g_nop ?_
          refine g_iconst (by decide) (fun v778 kv778 => ?_)
          exact g_iret ⟨_, rfl, hIH732, hJH732, (e733.symm.trans ek0_2), m734⟩
set_option maxRecDepth 4000 in
set_option maxHeartbeats 4000000 in
/-- M.meets -/
theorem s_235 (H : mzH) (hI : gI SM H) (hJ : JM H) : gCall 235 [.ref 0] H (gRv (fun H' => gI SM H' ∧ JM H' ∧ (∀ a f, fZ H' a f = fZ H a f) ∧ kpM H H')) := by
  have mkF : ∀ a f, fZ H a f = fZ H a f := fun _ _ => rfl
  have mkfr : kpM H H := kpM_r
  refine gG_call [(0, .ref 0)] ⟨rfl, trivial⟩ ?_
  show gG 2 zB_235 (mzBlk zB_235 0) [(0, .ref 0)] [] H 0 0 _
  refine g_iconst (by decide) (fun v589 kv589 => ?_)
  refine g_istore_n (l' := [(0, .ref 0), (1, .int v589)]) rfl rfl ?_
  refine g_nop ?_
  have L594 : ∀ (N : Nat) (v590 : Int32) (H591 : mzH), gI SM H591 → JM H591 → (∀ a f, fZ H591 a f = fZ H a f) → kpM H H591 → (0 ≤ v590.toInt ∧ v590.toInt ≤ 40) → (40 - v590.toInt).toNat < N → gG 2 zB_235 (mzBlk zB_235 1) [(0, .ref 0), (1, .int v590)] [] H591 0 0 (gRv (fun H' => gI SM H' ∧ JM H' ∧ (∀ a f, fZ H' a f = fZ H a f) ∧ kpM H H')) := by
    intro N
    induction N with
    | zero => intro v590 H591 hIH591 hJH591 m592 m593 bv590 hmL594; exact absurd hmL594 (Nat.not_lt_zero _)
    | succ N ihL594 =>
      intro v590 H591 hIH591 hJH591 m592 m593 bv590 hmL594
      refine g_iload_n rfl ?_
      refine g_bipush (by decide) (fun v595 kv595 => ?_)
      refine g_if2_ge (fun c596 => ?_) (fun c596 => ?_)
      · refine g_iconst (by decide) (fun v597 kv597 => ?_)
        refine g_istore_n (l' := [(0, .ref 0), (1, .int v597)]) rfl rfl ?_
        refine g_nop ?_
        have L602 : ∀ (N : Nat) (v598 : Int32) (H599 : mzH), gI SM H599 → JM H599 → (∀ a f, fZ H599 a f = fZ H a f) → kpM H H599 → (0 ≤ v598.toInt ∧ v598.toInt ≤ 40) → (40 - v598.toInt).toNat < N → gG 2 zB_235 (mzBlk zB_235 3) [(0, .ref 0), (1, .int v598)] [] H599 0 0 (gRv (fun H' => gI SM H' ∧ JM H' ∧ (∀ a f, fZ H' a f = fZ H a f) ∧ kpM H H')) := by
          intro N
          induction N with
          | zero => intro v598 H599 hIH599 hJH599 m600 m601 bv598 hmL602; exact absurd hmL602 (Nat.not_lt_zero _)
          | succ N ihL602 =>
            intro v598 H599 hIH599 hJH599 m600 m601 bv598 hmL602
            refine g_iload_n rfl ?_
            refine g_bipush (by decide) (fun v603 kv603 => ?_)
            refine g_if2_ge (fun c604 => ?_) (fun c604 => ?_)
            · refine g_iconst (by decide) (fun v605 kv605 => ?_)
              refine g_istore_n (l' := [(0, .ref 0), (1, .int v605)]) rfl rfl ?_
              refine g_nop ?_
              have L610 : ∀ (N : Nat) (v606 : Int32) (H607 : mzH), gI SM H607 → JM H607 → (∀ a f, fZ H607 a f = fZ H a f) → kpM H H607 → (0 ≤ v606.toInt ∧ v606.toInt ≤ 40) → (40 - v606.toInt).toNat < N → gG 2 zB_235 (mzBlk zB_235 6) [(0, .ref 0), (1, .int v606)] [] H607 0 0 (gRv (fun H' => gI SM H' ∧ JM H' ∧ (∀ a f, fZ H' a f = fZ H a f) ∧ kpM H H')) := by
                intro N
                induction N with
                | zero => intro v606 H607 hIH607 hJH607 m608 m609 bv606 hmL610; exact absurd hmL610 (Nat.not_lt_zero _)
                | succ N ihL610 =>
                  intro v606 H607 hIH607 hJH607 m608 m609 bv606 hmL610
                  refine g_iload_n rfl ?_
                  refine g_bipush (by decide) (fun v611 kv611 => ?_)
                  refine g_if2_ge (fun c612 => ?_) (fun c612 => ?_)
                  · exact g_ret ⟨rfl, hIH607, hJH607, m608, m609⟩
                  · refine g_aload_n rfl ?_
                    refine g_gfr hIH607 sm_0 rfl ?_
                    refine g_iload_n rfl ?_
                    refine g_baload hIH607 sm_7 rfl (by omega) (fun v613 ev613 lv613 uv613 => ?_)
                    refine g_if_eq (fun c614 => ?_) (fun c614 => ?_)
                    · refine g_iinc (l' := (fun v615 => [(0, .ref 0), (1, .int v615)])) rfl rfl (by decide) (by omega) (fun _ => rfl) (fun v615 ev615 => ?_)
                      refine g_goto ?_
                      exact ihL610 v615 H607 hIH607 hJH607 m608 m609 (by omega) (by omega)
                    · refine g_aload_n rfl ?_
                      refine g_gfr hIH607 sm_0 rfl ?_
                      refine g_iload_n rfl ?_
                      refine g_baload hIH607 sm_16 rfl (by omega) (fun v616 ev616 lv616 uv616 => ?_)
                      refine g_if_ne (fun c617 => ?_) (fun c617 => ?_)
                      · refine g_iinc (l' := (fun v618 => [(0, .ref 0), (1, .int v618)])) rfl rfl (by decide) (by omega) (fun _ => rfl) (fun v618 ev618 => ?_)
                        refine g_goto ?_
                        exact ihL610 v618 H607 hIH607 hJH607 m608 m609 (by omega) (by omega)
                      · refine g_aload_n rfl ?_
                        refine g_gfr hIH607 sm_0 rfl ?_
                        refine g_aload_n rfl ?_
                        refine g_iload_n rfl ?_
                        refine g_invvi hIH607 sm_0 rfl rfl rfl rfl (s_185 v606 (by omega) H607 hIH607 hJH607) (fun v621 H619 r620 => ?_)
                        obtain ⟨rfl, bv621⟩ := r620
                        refine g_baload hIH607 sm_21 rfl (by omega) (fun v622 ev622 lv622 uv622 => ?_)
                        refine g_if_eq (fun c623 => ?_) (fun c623 => ?_)
                        · refine g_iinc (l' := (fun v624 => [(0, .ref 0), (1, .int v624)])) rfl rfl (by decide) (by omega) (fun _ => rfl) (fun v624 ev624 => ?_)
                          refine g_goto ?_
                          exact ihL610 v624 H607 hIH607 hJH607 m608 m609 (by omega) (by omega)
                        · refine g_aload_n rfl ?_
                          refine g_gfr hIH607 sm_0 rfl ?_
                          refine g_iload_n rfl ?_
                          refine g_iconst (by decide) (fun v625 kv625 => ?_)
                          refine g_zastore hIH607 sm_25 (by omega) (by omega) (fun H626 eH626 hIH626 => ?_)
                          have hJH626 : JM H626 := JM_sA (by decide) eH626 hJH607
                          have m627 : ∀ a f, fZ H626 a f = fZ H a f := fun a f => (by rw [eH626, fZ_sA] : fZ H626 a f = fZ H607 a f).trans (m608 a f)
                          have m628 : kpM H H626 := kpM_A m609 eH626 (by omega)
                          refine g_nop ?_
                          refine g_iinc (l' := (fun v629 => [(0, .ref 0), (1, .int v629)])) rfl rfl (by decide) (by omega) (fun _ => rfl) (fun v629 ev629 => ?_)
                          refine g_goto ?_
                          exact ihL610 v629 H626 hIH626 hJH626 m627 m628 (by omega) (by omega)
              exact L610 _ v605 H599 hIH599 hJH599 m600 m601 (by omega) (Nat.lt_succ_self _)
            · refine g_aload_n rfl ?_
              refine g_gfr hIH599 sm_0 rfl ?_
              refine g_iload_n rfl ?_
              refine g_baload hIH599 sm_25 rfl (by omega) (fun v630 ev630 lv630 uv630 => ?_)
              refine g_if_eq (fun c631 => ?_) (fun c631 => ?_)
              · refine g_iinc (l' := (fun v632 => [(0, .ref 0), (1, .int v632)])) rfl rfl (by decide) (by omega) (fun _ => rfl) (fun v632 ev632 => ?_)
                refine g_goto ?_
                exact ihL602 v632 H599 hIH599 hJH599 m600 m601 (by omega) (by omega)
              · refine g_aload_n rfl ?_
                refine g_gfr hIH599 sm_0 rfl ?_
                refine g_iload_n rfl ?_
                refine g_baload hIH599 sm_7 rfl (by omega) (fun v633 ev633 lv633 uv633 => ?_)
                refine g_if_eq (fun c634 => ?_) (fun c634 => ?_)
                · refine g_iinc (l' := (fun v635 => [(0, .ref 0), (1, .int v635)])) rfl rfl (by decide) (by omega) (fun _ => rfl) (fun v635 ev635 => ?_)
                  refine g_goto ?_
                  exact ihL602 v635 H599 hIH599 hJH599 m600 m601 (by omega) (by omega)
                · refine g_aload_n rfl ?_
                  refine g_gfr hIH599 sm_0 rfl ?_
                  refine g_iload_n rfl ?_
                  refine g_baload hIH599 sm_16 rfl (by omega) (fun v636 ev636 lv636 uv636 => ?_)
                  refine g_if_ne (fun c637 => ?_) (fun c637 => ?_)
                  · refine g_iinc (l' := (fun v638 => [(0, .ref 0), (1, .int v638)])) rfl rfl (by decide) (by omega) (fun _ => rfl) (fun v638 ev638 => ?_)
                    refine g_goto ?_
                    exact ihL602 v638 H599 hIH599 hJH599 m600 m601 (by omega) (by omega)
                  · refine g_aload_n rfl ?_
                    refine g_gfr hIH599 sm_0 rfl ?_
                    refine g_aload_n rfl ?_
                    refine g_iload_n rfl ?_
                    refine g_invvi hIH599 sm_0 rfl rfl rfl rfl (s_185 v598 (by omega) H599 hIH599 hJH599) (fun v641 H639 r640 => ?_)
                    obtain ⟨rfl, bv641⟩ := r640
                    refine g_iconst (by decide) (fun v642 kv642 => ?_)
                    refine g_zastore hIH599 sm_21 (by omega) (by omega) (fun H643 eH643 hIH643 => ?_)
                    have hJH643 : JM H643 := JM_sA (by decide) eH643 hJH599
                    have m644 : ∀ a f, fZ H643 a f = fZ H a f := fun a f => (by rw [eH643, fZ_sA] : fZ H643 a f = fZ H599 a f).trans (m600 a f)
                    have m645 : kpM H H643 := kpM_A m601 eH643 (by omega)
                    refine g_nop ?_
                    refine g_iinc (l' := (fun v646 => [(0, .ref 0), (1, .int v646)])) rfl rfl (by decide) (by omega) (fun _ => rfl) (fun v646 ev646 => ?_)
                    refine g_goto ?_
                    exact ihL602 v646 H643 hIH643 hJH643 m644 m645 (by omega) (by omega)
        exact L602 _ v597 H591 hIH591 hJH591 m592 m593 (by omega) (Nat.lt_succ_self _)
      · refine g_aload_n rfl ?_
        refine g_gfr hIH591 sm_0 rfl ?_
        refine g_iload_n rfl ?_
        refine g_iconst (by decide) (fun v647 kv647 => ?_)
        refine g_zastore hIH591 sm_21 (by omega) (by omega) (fun H648 eH648 hIH648 => ?_)
        have hJH648 : JM H648 := JM_sA (by decide) eH648 hJH591
        have m649 : ∀ a f, fZ H648 a f = fZ H a f := fun a f => (by rw [eH648, fZ_sA] : fZ H648 a f = fZ H591 a f).trans (m592 a f)
        have m650 : kpM H H648 := kpM_A m593 eH648 (by omega)
        refine g_iinc (l' := (fun v651 => [(0, .ref 0), (1, .int v651)])) rfl rfl (by decide) (by omega) (fun _ => rfl) (fun v651 ev651 => ?_)
        refine g_goto ?_
        exact ihL594 v651 H648 hIH648 hJH648 m649 m650 (by omega) (by omega)
  exact L594 _ v589 H hI hJ mkF mkfr (by omega) (Nat.lt_succ_self _)
set_option maxRecDepth 4000 in
set_option maxHeartbeats 4000000 in
/-- M.pick -/
theorem s_236 (a1 : Int32) (H : mzH) (hI : gI SM H) (hJ : JN H) : gCall 236 [.ref 25, .int a1] H (gRi (fun v H' => H = H')) := by
  refine gG_call [(0, .ref 25), (1, .int a1)] ⟨rfl, rfl, trivial⟩ ?_
  show gG 4 zB_236 (mzBlk zB_236 0) [(0, .ref 25), (1, .int a1)] [] H 0 0 _
  refine g_iload_n rfl ?_
  refine g_istore_n (l' := [(0, .ref 25), (1, .int a1), (2, .int a1)]) rfl rfl ?_
  refine g_iconst (by decide) (fun v141 kv141 => ?_)
  refine g_istore_n (l' := [(0, .ref 25), (1, .int a1), (2, .int a1), (3, .int v141)]) rfl rfl ?_
  refine g_nop ?_
  have L144 : ∀ (N : Nat) (v142 : Int32) (v143 : Int32), (0 ≤ v143.toInt ∧ v143.toInt ≤ 40) → (40 - v143.toInt).toNat < N → gG 4 zB_236 (mzBlk zB_236 1) [(0, .ref 25), (1, .int a1), (2, .int v142), (3, .int v143)] [] H 0 0 (gRi (fun v H' => H = H')) := by
    intro N
    induction N with
    | zero => intro v142 v143 bv143 hmL144; exact absurd hmL144 (Nat.not_lt_zero _)
    | succ N ihL144 =>
      intro v142 v143 bv143 hmL144
      refine g_iload_n rfl ?_
      refine g_bipush (by decide) (fun v145 kv145 => ?_)
      refine g_if2_ge (fun c146 => ?_) (fun c146 => ?_)
      · refine g_bipush (by decide) (fun v147 kv147 => ?_)
        exact g_iret ⟨_, rfl, rfl⟩
      · refine g_aload_n rfl ?_
        refine g_iload_n rfl ?_
        refine g_baload hI sm_25 rfl (by omega) (fun v148 ev148 lv148 uv148 => ?_)
        refine g_if_ne (fun c149 => ?_) (fun c149 => ?_)
        · refine g_iload_n rfl ?_
          refine g_if_ne (fun c150 => ?_) (fun c150 => ?_)
          · refine g_iinc' (l' := (fun v151 => [(0, .ref 25), (1, .int a1), (2, .int v151), (3, .int v143)])) rfl rfl (fun _ => rfl) (fun v151 => ?_)
            refine g_nop ?_
            refine g_iinc (l' := (fun v152 => [(0, .ref 25), (1, .int a1), (2, .int v151), (3, .int v152)])) rfl rfl (by decide) (by omega) (fun _ => rfl) (fun v152 ev152 => ?_)
            refine g_goto ?_
            exact ihL144 v151 v152 (by omega) (by omega)
          · refine g_iload_n rfl ?_
            exact g_iret ⟨_, rfl, rfl⟩
        · refine g_goto ?_
          refine g_iinc (l' := (fun v153 => [(0, .ref 25), (1, .int a1), (2, .int v142), (3, .int v153)])) rfl rfl (by decide) (by omega) (fun _ => rfl) (fun v153 ev153 => ?_)
          refine g_goto ?_
          exact ihL144 v142 v153 (by omega) (by omega)
  exact L144 _ a1 v141 (by omega) (Nat.lt_succ_self _)
set_option maxRecDepth 4000 in
set_option maxHeartbeats 4000000 in
/-- M.met -/
theorem s_237 (a1 : Int32) (a2 : Int32) (a3 : Int32) (H : mzH) (hI : gI SM H) (hJ : JN H) : gCall 237 [.ref 0, .int a1, .int a2, .int a3] H (gRi (fun v H' => gI SM H' ∧ JN H' ∧ fZ H' 0 2 = fZ H 0 2 ∧ kpM H H')) := by
  obtain ⟨k0_2, ek0_2⟩ : ∃ z, z = fZ H 0 2 := ⟨_, rfl⟩
  have ik0_2 : k0_2.toInt = (fZ H 0 2).toInt := by rw [← ek0_2]
  have bk0_2 : 0 ≤ k0_2.toInt ∧ k0_2.toInt ≤ 900 := by rw [ek0_2]; exact fZ_of hI sm_0 rfl
  have mkfr : kpM H H := kpM_r
  refine gG_call [(0, .ref 0), (1, .int a1), (2, .int a2), (3, .int a3)] ⟨rfl, rfl, rfl, rfl, trivial⟩ ?_
  show gG 5 zB_237 (mzBlk zB_237 0) [(0, .ref 0), (1, .int a1), (2, .int a2), (3, .int a3)] [] H 0 0 _
  refine g_aload_n rfl ?_
  refine g_iconst (by decide) (fun v703 kv703 => ?_)
  refine g_pfi hI sm_0 rfl (gz_any _) (fun H704 eH704 hIH704 => ?_)
  have hJH704 : JN H704 := JN_sF eH704 hJ
  have e705 : k0_2 = fZ H704 0 2 := by rw [eH704, fZ_sF_ne (by decide)]; exact ek0_2
  have m706 : kpM H H704 := kpM_F mkfr eH704 (by omega)
  refine g_iload_n rfl ?_
  refine g_invti rfl rfl rfl (s_205 a1 H704 hIH704 hJH704) (fun v709 H707 r708 => ?_)
  obtain ⟨rfl, bv709, p710⟩ := r708
  refine g_if_eq (fun c711 => ?_) (fun c711 => ?_)
  · refine g_iconst (by decide) (fun v712 kv712 => ?_)
    exact g_iret ⟨_, rfl, hIH704, hJH704, (e705.symm.trans ek0_2), m706⟩
  · refine g_iload_n rfl ?_
    refine g_invti rfl rfl rfl (s_206 a2 H704 hIH704 hJH704) (fun v715 H713 r714 => ?_)
    obtain ⟨rfl, bv715⟩ := r714
    refine g_if_eq (fun c716 => ?_) (fun c716 => ?_)
    · refine g_iconst (by decide) (fun v717 kv717 => ?_)
      exact g_iret ⟨_, rfl, hIH704, hJH704, (e705.symm.trans ek0_2), m706⟩
    · refine g_iload_n rfl ?_
      refine g_if_ge (fun c718 => ?_) (fun c718 => ?_)
      · refine g_aload_n rfl ?_
        refine g_iload_n rfl ?_
        refine g_invvv hIH704 sm_0 rfl rfl rfl rfl (s_200 a2 H704 hIH704 hJH704) (fun H719 r720 => ?_)
        obtain ⟨hIH719, hJH719, w721, m722⟩ := r720
        have e723 : k0_2 = fZ H719 0 2 := e705.trans w721.symm
        have m724 : kpM H H719 := kpM_t m706 m722
        refine g_aload_n rfl ?_
        refine g_gfr hIH719 sm_0 rfl ?_
        refine g_iload_n rfl ?_
        refine g_baload hIH719 sm_7 rfl (by omega) (fun v725 ev725 lv725 uv725 => ?_)
        refine g_if_eq (fun c726 => ?_) (fun c726 => ?_)
        · refine g_bipush (by decide) (fun v727 kv727 => ?_)
          exact g_iret ⟨_, rfl, hIH719, (JM_n hJH719), (e723.symm.trans ek0_2), m724⟩
        · refine g_aload_n rfl ?_
          refine g_gfr hIH719 sm_0 rfl ?_
          refine g_iload_n rfl ?_
          refine g_baload hIH719 sm_16 rfl (by omega) (fun v728 ev728 lv728 uv728 => ?_)
          refine g_if_eq (fun c729 => ?_) (fun c729 => ?_)
          · refine g_iconst (by decide) (fun v730 kv730 => ?_)
            refine g_istore (l' := [(0, .ref 0), (1, .int a1), (2, .int a2), (3, .int a3), (4, .int v730)]) rfl rfl ?_
            refine g_nop ?_
            have L735 : ∀ (N : Nat) (v731 : Int32) (H732 : mzH), gI SM H732 → JM H732 → k0_2 = fZ H732 0 2 → kpM H H732 → (0 ≤ v731.toInt ∧ v731.toInt ≤ 40) → (40 - v731.toInt).toNat < N → gG 5 zB_237 (mzBlk zB_237 5) [(0, .ref 0), (1, .int a1), (2, .int a2), (3, .int a3), (4, .int v731)] [] H732 0 0 (gRi (fun v H' => gI SM H' ∧ JN H' ∧ fZ H' 0 2 = fZ H 0 2 ∧ kpM H H')) := by
              intro N
              induction N with
              | zero => intro v731 H732 hIH732 hJH732 e733 m734 bv731 hmL735; exact absurd hmL735 (Nat.not_lt_zero _)
              | succ N ihL735 =>
                intro v731 H732 hIH732 hJH732 e733 m734 bv731 hmL735
                refine g_iload rfl ?_
                refine g_bipush (by decide) (fun v736 kv736 => ?_)
                refine g_if2_ge (fun c737 => ?_) (fun c737 => ?_)
                · refine g_aload_n rfl ?_
                  refine g_invvv hIH732 sm_0 rfl rfl rfl rfl (s_235 H732 hIH732 hJH732) (fun H738 r739 => ?_)
                  obtain ⟨hIH738, hJH738, m740, m741⟩ := r739
                  have e742 : k0_2 = fZ H738 0 2 := e733.trans (m740 0 2).symm
                  have m743 : kpM H H738 := kpM_t m734 m741
                  refine g_iconst (by decide) (fun v744 kv744 => ?_)
                  refine g_istore (l' := [(0, .ref 0), (1, .int a1), (2, .int a2), (3, .int a3), (4, .int v744)]) rfl rfl ?_
                  refine g_nop ?_
                  have L749 : ∀ (N : Nat) (v745 : Int32) (H746 : mzH), gI SM H746 → JM H746 → k0_2 = fZ H746 0 2 → kpM H H746 → (0 ≤ v745.toInt ∧ v745.toInt ≤ 60) → (60 - v745.toInt).toNat < N → gG 5 zB_237 (mzBlk zB_237 9) [(0, .ref 0), (1, .int a1), (2, .int a2), (3, .int a3), (4, .int v745)] [] H746 0 0 (gRi (fun v H' => gI SM H' ∧ JN H' ∧ fZ H' 0 2 = fZ H 0 2 ∧ kpM H H')) := by
                    intro N
                    induction N with
                    | zero => intro v745 H746 hIH746 hJH746 e747 m748 bv745 hmL749; exact absurd hmL749 (Nat.not_lt_zero _)
                    | succ N ihL749 =>
                      intro v745 H746 hIH746 hJH746 e747 m748 bv745 hmL749
                      refine g_iload rfl ?_
                      refine g_aload_n rfl ?_
                      refine g_gfi hIH746 sm_0 rfl (fun v750 ev750 lv750 uv750 => ?_)
                      refine g_if2_ge (fun c751 => ?_) (fun c751 => ?_)
                      · refine g_aload_n rfl ?_
                        refine g_gfr hIH746 sm_0 rfl ?_
                        refine g_iload_n rfl ?_
                        refine g_invti rfl rfl rfl (s_236 a3 H746 hIH746 (JM_n hJH746)) (fun v754 H752 r753 => ?_)
                        obtain rfl := r753
                        exact g_iret ⟨_, rfl, hIH746, (JM_n hJH746), (e747.symm.trans ek0_2), m748⟩
                      · refine g_aload_n rfl ?_
                        refine g_gfr hIH746 sm_0 rfl ?_
                        refine g_aload_n rfl ?_
                        refine g_gfr hIH746 sm_0 rfl ?_
                        refine g_iload rfl ?_
                        refine g_iaload hIH746 sm_19 rfl (by omega) (fun v755 ev755 lv755 uv755 => ?_)
                        refine g_iaload hIH746 sm_18 rfl (by omega) (fun v756 ev756 lv756 uv756 => ?_)
                        refine g_iload_n rfl ?_
                        refine g_if2_gt (fun c757 => ?_) (fun c757 => ?_)
                        · refine g_aload_n rfl ?_
                          refine g_aload_n rfl ?_
                          refine g_gfr hIH746 sm_0 rfl ?_
                          refine g_iload rfl ?_
                          refine g_ialoadk hIH746 sm_19 rfl (by omega) ev755 ?_
                          refine g_invvv hIH746 sm_0 rfl rfl rfl rfl (s_192 v755 (by omega) H746 hIH746 hJH746) (fun H758 r759 => ?_)
                          obtain ⟨hIH758, hJH758, m760, m761, m762, m763, m764⟩ := r759
                          have e765 : k0_2 = fZ H758 0 2 := e747.trans (m760 0 2).symm
                          have m766 : kpM H H758 := kpM_t m748 m764
                          refine g_aload_n rfl ?_
                          refine g_invvv hIH758 sm_0 rfl rfl rfl rfl (s_235 H758 hIH758 hJH758) (fun H767 r768 => ?_)
                          obtain ⟨hIH767, hJH767, m769, m770⟩ := r768
                          have e771 : k0_2 = fZ H767 0 2 := e765.trans (m769 0 2).symm
                          have m772 : kpM H H767 := kpM_t m766 m770
                          refine g_nop ?_
                          refine g_iinc (l' := (fun v773 => [(0, .ref 0), (1, .int a1), (2, .int a2), (3, .int a3), (4, .int v773)])) rfl rfl (by decide) (by omega) (fun _ => rfl) (fun v773 ev773 => ?_)
                          refine g_goto ?_
                          exact ihL749 v773 H767 hIH767 hJH767 e771 m772 (by omega) (by omega)
                        · refine g_goto ?_
                          refine g_iinc (l' := (fun v774 => [(0, .ref 0), (1, .int a1), (2, .int a2), (3, .int a3), (4, .int v774)])) rfl rfl (by decide) (by omega) (fun _ => rfl) (fun v774 ev774 => ?_)
                          refine g_goto ?_
                          exact ihL749 v774 H746 hIH746 hJH746 e747 m748 (by omega) (by omega)
                  exact L749 _ v744 H738 hIH738 hJH738 e742 m743 (by omega) (Nat.lt_succ_self _)
                · refine g_aload_n rfl ?_
                  refine g_gfr hIH732 sm_0 rfl ?_
                  refine g_iload rfl ?_
                  refine g_iload rfl ?_
                  refine g_iload_n rfl ?_
                  refine g_if2_ne (fun c775 => ?_) (fun c775 => ?_)
                  · refine g_iconst (by decide) (fun v776 kv776 => ?_)
                    refine g_nop ?_
                    refine g_zastore hIH732 sm_25 (by omega) (by omega) (fun H777 eH777 hIH777 => ?_)
                    have hJH777 : JM H777 := JM_sA (by decide) eH777 hJH732
                    have e778 : k0_2 = fZ H777 0 2 := by rw [eH777, fZ_sA]; exact e733
                    have m779 : kpM H H777 := kpM_A m734 eH777 (by omega)
                    refine g_iinc (l' := (fun v780 => [(0, .ref 0), (1, .int a1), (2, .int a2), (3, .int a3), (4, .int v780)])) rfl rfl (by decide) (by omega) (fun _ => rfl) (fun v780 ev780 => ?_)
                    refine g_goto ?_
                    exact ihL735 v780 H777 hIH777 hJH777 e778 m779 (by omega) (by omega)
                  · refine g_iconst (by decide) (fun v781 kv781 => ?_)
                    refine g_goto ?_
                    refine g_zastore hIH732 sm_25 (by omega) (by omega) (fun H782 eH782 hIH782 => ?_)
                    have hJH782 : JM H782 := JM_sA (by decide) eH782 hJH732
                    have e783 : k0_2 = fZ H782 0 2 := by rw [eH782, fZ_sA]; exact e733
                    have m784 : kpM H H782 := kpM_A m734 eH782 (by omega)
                    refine g_iinc (l' := (fun v785 => [(0, .ref 0), (1, .int a1), (2, .int a2), (3, .int a3), (4, .int v785)])) rfl rfl (by decide) (by omega) (fun _ => rfl) (fun v785 ev785 => ?_)
                    refine g_goto ?_
                    exact ihL735 v785 H782 hIH782 hJH782 e783 m784 (by omega) (by omega)
            exact L735 _ v730 H719 hIH719 hJH719 e723 m724 (by omega) (Nat.lt_succ_self _)
          · refine g_nop ?_
            refine g_bipush (by decide) (fun v786 kv786 => ?_)
            exact g_iret ⟨_, rfl, hIH719, (JM_n hJH719), (e723.symm.trans ek0_2), m724⟩
      · refine g_nop ?_
        refine g_iconst (by decide) (fun v787 kv787 => ?_)
        exact g_iret ⟨_, rfl, hIH704, hJH704, (e705.symm.trans ek0_2), m706⟩
set_option maxRecDepth 4000 in
set_option maxHeartbeats 4000000 in
/-- M.adds -/
theorem s_238 (a1 : Int32) (H : mzH) (hI : gI SM H) (hJ : JM H) : gCall 238 [.ref 0, .int a1] H (gRv (fun H' => gI SM H' ∧ JM H' ∧ (∀ a f, fZ H' a f = fZ H a f) ∧ kpM H H')) := by
  have mkF : ∀ a f, fZ H a f = fZ H a f := fun _ _ => rfl
  have mkfr : kpM H H := kpM_r
  refine gG_call [(0, .ref 0), (1, .int a1)] ⟨rfl, rfl, trivial⟩ ?_
  show gG 3 zB_238 (mzBlk zB_238 0) [(0, .ref 0), (1, .int a1)] [] H 0 0 _
  refine g_iconst (by decide) (fun v305 kv305 => ?_)
  refine g_istore_n (l' := [(0, .ref 0), (1, .int a1), (2, .int v305)]) rfl rfl ?_
  refine g_nop ?_
  have L310 : ∀ (N : Nat) (v306 : Int32) (H307 : mzH), gI SM H307 → JM H307 → (∀ a f, fZ H307 a f = fZ H a f) → kpM H H307 → (0 ≤ v306.toInt ∧ v306.toInt ≤ 40) → (40 - v306.toInt).toNat < N → gG 3 zB_238 (mzBlk zB_238 1) [(0, .ref 0), (1, .int a1), (2, .int v306)] [] H307 0 0 (gRv (fun H' => gI SM H' ∧ JM H' ∧ (∀ a f, fZ H' a f = fZ H a f) ∧ kpM H H')) := by
    intro N
    induction N with
    | zero => intro v306 H307 hIH307 hJH307 m308 m309 bv306 hmL310; exact absurd hmL310 (Nat.not_lt_zero _)
    | succ N ihL310 =>
      intro v306 H307 hIH307 hJH307 m308 m309 bv306 hmL310
      refine g_iload_n rfl ?_
      refine g_bipush (by decide) (fun v311 kv311 => ?_)
      refine g_if2_ge (fun c312 => ?_) (fun c312 => ?_)
      · exact g_ret ⟨rfl, hIH307, hJH307, m308, m309⟩
      · refine g_aload_n rfl ?_
        refine g_gfr hIH307 sm_0 rfl ?_
        refine g_iload_n rfl ?_
        refine g_aload_n rfl ?_
        refine g_gfr hIH307 sm_0 rfl ?_
        refine g_iload_n rfl ?_
        refine g_baload hIH307 sm_25 rfl (by omega) (fun v313 ev313 lv313 uv313 => ?_)
        refine g_if_ne (fun c314 => ?_) (fun c314 => ?_)
        · refine g_iconst (by decide) (fun v315 kv315 => ?_)
          refine g_goto ?_
          refine g_zastore hIH307 sm_25 (by omega) (by omega) (fun H316 eH316 hIH316 => ?_)
          have hJH316 : JM H316 := JM_sA (by decide) eH316 hJH307
          have m317 : ∀ a f, fZ H316 a f = fZ H a f := fun a f => (by rw [eH316, fZ_sA] : fZ H316 a f = fZ H307 a f).trans (m308 a f)
          have m318 : kpM H H316 := kpM_A m309 eH316 (by omega)
          refine g_iinc (l' := (fun v319 => [(0, .ref 0), (1, .int a1), (2, .int v319)])) rfl rfl (by decide) (by omega) (fun _ => rfl) (fun v319 ev319 => ?_)
          refine g_goto ?_
          exact ihL310 v319 H316 hIH316 hJH316 m317 m318 (by omega) (by omega)
        · refine g_aload_n rfl ?_
          refine g_iload_n rfl ?_
          refine g_iload_n rfl ?_
          refine g_invvi hIH307 sm_0 rfl rfl rfl rfl (s_186 v306 (by omega) a1 H307 hIH307 hJH307) (fun v322 H320 r321 => ?_)
          obtain ⟨rfl, bv322⟩ := r321
          refine g_if_eq (fun c323 => ?_) (fun c323 => ?_)
          · refine g_iconst (by decide) (fun v324 kv324 => ?_)
            refine g_nop ?_
            refine g_zastore hIH307 sm_25 (by omega) (by omega) (fun H325 eH325 hIH325 => ?_)
            have hJH325 : JM H325 := JM_sA (by decide) eH325 hJH307
            have m326 : ∀ a f, fZ H325 a f = fZ H a f := fun a f => (by rw [eH325, fZ_sA] : fZ H325 a f = fZ H307 a f).trans (m308 a f)
            have m327 : kpM H H325 := kpM_A m309 eH325 (by omega)
            refine g_iinc (l' := (fun v328 => [(0, .ref 0), (1, .int a1), (2, .int v328)])) rfl rfl (by decide) (by omega) (fun _ => rfl) (fun v328 ev328 => ?_)
            refine g_goto ?_
            exact ihL310 v328 H325 hIH325 hJH325 m326 m327 (by omega) (by omega)
          · refine g_nop ?_
            refine g_iconst (by decide) (fun v329 kv329 => ?_)
            refine g_goto ?_
            refine g_zastore hIH307 sm_25 (by omega) (by omega) (fun H330 eH330 hIH330 => ?_)
            have hJH330 : JM H330 := JM_sA (by decide) eH330 hJH307
            have m331 : ∀ a f, fZ H330 a f = fZ H a f := fun a f => (by rw [eH330, fZ_sA] : fZ H330 a f = fZ H307 a f).trans (m308 a f)
            have m332 : kpM H H330 := kpM_A m309 eH330 (by omega)
            refine g_iinc (l' := (fun v333 => [(0, .ref 0), (1, .int a1), (2, .int v333)])) rfl rfl (by decide) (by omega) (fun _ => rfl) (fun v333 ev333 => ?_)
            refine g_goto ?_
            exact ihL310 v333 H330 hIH330 hJH330 m331 m332 (by omega) (by omega)
  exact L310 _ v305 H hI hJ mkF mkfr (by omega) (Nat.lt_succ_self _)
set_option maxRecDepth 4000 in
set_option maxHeartbeats 4000000 in
/-- M.wereIn -/
theorem s_239 (a1 : Int32) (a2 : Int32) (a3 : Int32) (a4 : Int32) (H : mzH) (hI : gI SM H) (hJ : JN H) : gCall 239 [.ref 0, .int a1, .int a2, .int a3, .int a4] H (gRi (fun v H' => gI SM H' ∧ JN H' ∧ fZ H' 0 2 = fZ H 0 2 ∧ kpM H H')) := by
  obtain ⟨k0_2, ek0_2⟩ : ∃ z, z = fZ H 0 2 := ⟨_, rfl⟩
  have ik0_2 : k0_2.toInt = (fZ H 0 2).toInt := by rw [← ek0_2]
  have bk0_2 : 0 ≤ k0_2.toInt ∧ k0_2.toInt ≤ 900 := by rw [ek0_2]; exact fZ_of hI sm_0 rfl
  have mkfr : kpM H H := kpM_r
  refine gG_call [(0, .ref 0), (1, .int a1), (2, .int a2), (3, .int a3), (4, .int a4)] ⟨rfl, rfl, rfl, rfl, rfl, trivial⟩ ?_
  show gG 7 zB_239 (mzBlk zB_239 0) [(0, .ref 0), (1, .int a1), (2, .int a2), (3, .int a3), (4, .int a4)] [] H 0 0 _
  refine g_aload_n rfl ?_
  refine g_iconst (by decide) (fun v701 kv701 => ?_)
  refine g_pfi hI sm_0 rfl (gz_any _) (fun H702 eH702 hIH702 => ?_)
  have hJH702 : JN H702 := JN_sF eH702 hJ
  have e703 : k0_2 = fZ H702 0 2 := by rw [eH702, fZ_sF_ne (by decide)]; exact ek0_2
  have m704 : kpM H H702 := kpM_F mkfr eH702 (by omega)
  refine g_iload_n rfl ?_
  refine g_invti rfl rfl rfl (s_205 a1 H702 hIH702 hJH702) (fun v707 H705 r706 => ?_)
  obtain ⟨rfl, bv707, p708⟩ := r706
  refine g_if_eq (fun c709 => ?_) (fun c709 => ?_)
  · refine g_iconst (by decide) (fun v710 kv710 => ?_)
    exact g_iret ⟨_, rfl, hIH702, hJH702, (e703.symm.trans ek0_2), m704⟩
  · refine g_iload_n rfl ?_
    refine g_invti rfl rfl rfl (s_206 a2 H702 hIH702 hJH702) (fun v713 H711 r712 => ?_)
    obtain ⟨rfl, bv713⟩ := r712
    refine g_if_eq (fun c714 => ?_) (fun c714 => ?_)
    · refine g_iconst (by decide) (fun v715 kv715 => ?_)
      exact g_iret ⟨_, rfl, hIH702, hJH702, (e703.symm.trans ek0_2), m704⟩
    · refine g_iload_n rfl ?_
      refine g_invti rfl rfl rfl (s_206 a3 H702 hIH702 hJH702) (fun v718 H716 r717 => ?_)
      obtain ⟨rfl, bv718⟩ := r717
      refine g_if_eq (fun c719 => ?_) (fun c719 => ?_)
      · refine g_iconst (by decide) (fun v720 kv720 => ?_)
        exact g_iret ⟨_, rfl, hIH702, hJH702, (e703.symm.trans ek0_2), m704⟩
      · refine g_iload_n rfl ?_
        refine g_iload_n rfl ?_
        refine g_if2_lt (fun c721 => ?_) (fun c721 => ?_)
        · refine g_iconst (by decide) (fun v722 kv722 => ?_)
          exact g_iret ⟨_, rfl, hIH702, hJH702, (e703.symm.trans ek0_2), m704⟩
        · refine g_iload rfl ?_
          refine g_if_ge (fun c723 => ?_) (fun c723 => ?_)
          · refine g_aload_n rfl ?_
            refine g_iload_n rfl ?_
            refine g_invvv hIH702 sm_0 rfl rfl rfl rfl (s_200 a2 H702 hIH702 hJH702) (fun H724 r725 => ?_)
            obtain ⟨hIH724, hJH724, w726, m727⟩ := r725
            have e728 : k0_2 = fZ H724 0 2 := e703.trans w726.symm
            have m729 : kpM H H724 := kpM_t m704 m727
            refine g_iconst (by decide) (fun v730 kv730 => ?_)
            refine g_istore (l' := [(0, .ref 0), (1, .int a1), (2, .int a2), (3, .int a3), (4, .int a4), (5, .int v730)]) rfl rfl ?_
            refine g_nop ?_
            have L735 : ∀ (N : Nat) (v731 : Int32) (H732 : mzH), gI SM H732 → JM H732 → k0_2 = fZ H732 0 2 → kpM H H732 → (0 ≤ v731.toInt ∧ v731.toInt ≤ 40) → (40 - v731.toInt).toNat < N → gG 7 zB_239 (mzBlk zB_239 3) [(0, .ref 0), (1, .int a1), (2, .int a2), (3, .int a3), (4, .int a4), (5, .int v731)] [] H732 0 0 (gRi (fun v H' => gI SM H' ∧ JN H' ∧ fZ H' 0 2 = fZ H 0 2 ∧ kpM H H')) := by
              intro N
              induction N with
              | zero => intro v731 H732 hIH732 hJH732 e733 m734 bv731 hmL735; exact absurd hmL735 (Nat.not_lt_zero _)
              | succ N ihL735 =>
                intro v731 H732 hIH732 hJH732 e733 m734 bv731 hmL735
                refine g_iload rfl ?_
                refine g_bipush (by decide) (fun v736 kv736 => ?_)
                refine g_if2_ge (fun c737 => ?_) (fun c737 => ?_)
                · refine g_aload_n rfl ?_
                  refine g_iload_n rfl ?_
                  refine g_invvv hIH732 sm_0 rfl rfl rfl rfl (s_238 a1 H732 hIH732 hJH732) (fun H738 r739 => ?_)
                  obtain ⟨hIH738, hJH738, m740, m741⟩ := r739
                  have e742 : k0_2 = fZ H738 0 2 := e733.trans (m740 0 2).symm
                  have m743 : kpM H H738 := kpM_t m734 m741
                  refine g_iconst (by decide) (fun v744 kv744 => ?_)
                  refine g_istore (l' := [(0, .ref 0), (1, .int a1), (2, .int a2), (3, .int a3), (4, .int a4), (5, .int v744)]) rfl rfl ?_
                  refine g_nop ?_
                  have L749 : ∀ (N : Nat) (v745 : Int32) (H746 : mzH), gI SM H746 → JM H746 → k0_2 = fZ H746 0 2 → kpM H H746 → (0 ≤ v745.toInt ∧ v745.toInt ≤ 60) → (60 - v745.toInt).toNat < N → gG 7 zB_239 (mzBlk zB_239 5) [(0, .ref 0), (1, .int a1), (2, .int a2), (3, .int a3), (4, .int a4), (5, .int v745)] [] H746 0 0 (gRi (fun v H' => gI SM H' ∧ JN H' ∧ fZ H' 0 2 = fZ H 0 2 ∧ kpM H H')) := by
                    intro N
                    induction N with
                    | zero => intro v745 H746 hIH746 hJH746 e747 m748 bv745 hmL749; exact absurd hmL749 (Nat.not_lt_zero _)
                    | succ N ihL749 =>
                      intro v745 H746 hIH746 hJH746 e747 m748 bv745 hmL749
                      refine g_iload rfl ?_
                      refine g_aload_n rfl ?_
                      refine g_gfi hIH746 sm_0 rfl (fun v750 ev750 lv750 uv750 => ?_)
                      refine g_if2_ge (fun c751 => ?_) (fun c751 => ?_)
                      · refine g_aload_n rfl ?_
                        refine g_gfr hIH746 sm_0 rfl ?_
                        refine g_iload rfl ?_
                        refine g_invti rfl rfl rfl (s_236 a4 H746 hIH746 (JM_n hJH746)) (fun v754 H752 r753 => ?_)
                        obtain rfl := r753
                        exact g_iret ⟨_, rfl, hIH746, (JM_n hJH746), (e747.symm.trans ek0_2), m748⟩
                      · refine g_aload_n rfl ?_
                        refine g_gfr hIH746 sm_0 rfl ?_
                        refine g_aload_n rfl ?_
                        refine g_gfr hIH746 sm_0 rfl ?_
                        refine g_iload rfl ?_
                        refine g_iaload hIH746 sm_19 rfl (by omega) (fun v755 ev755 lv755 uv755 => ?_)
                        refine g_iaload hIH746 sm_18 rfl (by omega) (fun v756 ev756 lv756 uv756 => ?_)
                        refine g_istore (l' := [(0, .ref 0), (1, .int a1), (2, .int a2), (3, .int a3), (4, .int a4), (5, .int v745), (6, .int v756)]) rfl rfl ?_
                        refine g_iload rfl ?_
                        refine g_iload_n rfl ?_
                        refine g_if2_le (fun c757 => ?_) (fun c757 => ?_)
                        · refine g_iinc (l' := (fun v758 => [(0, .ref 0), (1, .int a1), (2, .int a2), (3, .int a3), (4, .int a4), (5, .int v758), (6, .int v756)])) rfl rfl (by decide) (by omega) (fun _ => rfl) (fun v758 ev758 => ?_)
                          refine g_goto ?_
                          refine gG_pick [0, 1, 2, 3, 4, 5] (l' := [(0, .ref 0), (1, .int a1), (2, .int a2), (3, .int a3), (4, .int a4), (5, .int v758)]) rfl ?_
                          exact ihL749 v758 H746 hIH746 hJH746 e747 m748 (by omega) (by omega)
                        · refine g_iload rfl ?_
                          refine g_iload_n rfl ?_
                          refine g_if2_le (fun c759 => ?_) (fun c759 => ?_)
                          · refine g_aload_n rfl ?_
                            refine g_aload_n rfl ?_
                            refine g_gfr hIH746 sm_0 rfl ?_
                            refine g_iload rfl ?_
                            refine g_ialoadk hIH746 sm_19 rfl (by omega) ev755 ?_
                            refine g_invvv hIH746 sm_0 rfl rfl rfl rfl (s_192 v755 (by omega) H746 hIH746 hJH746) (fun H760 r761 => ?_)
                            obtain ⟨hIH760, hJH760, m762, m763, m764, m765, m766⟩ := r761
                            have e767 : k0_2 = fZ H760 0 2 := e747.trans (m762 0 2).symm
                            have m768 : kpM H H760 := kpM_t m748 m766
                            refine g_aload_n rfl ?_
                            refine g_iload_n rfl ?_
                            refine g_invvv hIH760 sm_0 rfl rfl rfl rfl (s_238 a1 H760 hIH760 hJH760) (fun H769 r770 => ?_)
                            obtain ⟨hIH769, hJH769, m771, m772⟩ := r770
                            have e773 : k0_2 = fZ H769 0 2 := e767.trans (m771 0 2).symm
                            have m774 : kpM H H769 := kpM_t m768 m772
                            refine g_nop ?_
                            refine g_iinc (l' := (fun v775 => [(0, .ref 0), (1, .int a1), (2, .int a2), (3, .int a3), (4, .int a4), (5, .int v775), (6, .int v756)])) rfl rfl (by decide) (by omega) (fun _ => rfl) (fun v775 ev775 => ?_)
                            refine g_goto ?_
                            refine gG_pick [0, 1, 2, 3, 4, 5] (l' := [(0, .ref 0), (1, .int a1), (2, .int a2), (3, .int a3), (4, .int a4), (5, .int v775)]) rfl ?_
                            exact ihL749 v775 H769 hIH769 hJH769 e773 m774 (by omega) (by omega)
                          · refine g_goto ?_
                            refine g_iinc (l' := (fun v776 => [(0, .ref 0), (1, .int a1), (2, .int a2), (3, .int a3), (4, .int a4), (5, .int v776), (6, .int v756)])) rfl rfl (by decide) (by omega) (fun _ => rfl) (fun v776 ev776 => ?_)
                            refine g_goto ?_
                            refine gG_pick [0, 1, 2, 3, 4, 5] (l' := [(0, .ref 0), (1, .int a1), (2, .int a2), (3, .int a3), (4, .int a4), (5, .int v776)]) rfl ?_
                            exact ihL749 v776 H746 hIH746 hJH746 e747 m748 (by omega) (by omega)
                  exact L749 _ v744 H738 hIH738 hJH738 e742 m743 (by omega) (Nat.lt_succ_self _)
                · refine g_aload_n rfl ?_
                  refine g_gfr hIH732 sm_0 rfl ?_
                  refine g_iload rfl ?_
                  refine g_iconst (by decide) (fun v777 kv777 => ?_)
                  refine g_zastore hIH732 sm_25 (by omega) (by omega) (fun H778 eH778 hIH778 => ?_)
                  have hJH778 : JM H778 := JM_sA (by decide) eH778 hJH732
                  have e779 : k0_2 = fZ H778 0 2 := by rw [eH778, fZ_sA]; exact e733
                  have m780 : kpM H H778 := kpM_A m734 eH778 (by omega)
                  refine g_iinc (l' := (fun v781 => [(0, .ref 0), (1, .int a1), (2, .int a2), (3, .int a3), (4, .int a4), (5, .int v781)])) rfl rfl (by decide) (by omega) (fun _ => rfl) (fun v781 ev781 => ?_)
                  refine g_goto ?_
                  exact ihL735 v781 H778 hIH778 hJH778 e779 m780 (by omega) (by omega)
            exact L735 _ v730 H724 hIH724 hJH724 e728 m729 (by omega) (Nat.lt_succ_self _)
          · refine g_nop ?_
            refine g_iconst (by decide) (fun v782 kv782 => ?_)
            exact g_iret ⟨_, rfl, hIH702, hJH702, (e703.symm.trans ek0_2), m704⟩
set_option maxRecDepth 4000 in
set_option maxHeartbeats 4000000 in
/-- M.most -/
theorem s_240 (a1 : Int32) (H : mzH) (hI : gI SM H) (hJ : JN H) : gCall 240 [.ref 0, .int a1] H (gRi (fun v H' => gI SM H' ∧ JN H' ∧ fZ H' 0 2 = fZ H 0 2 ∧ kpM H H')) := by
  obtain ⟨k0_2, ek0_2⟩ : ∃ z, z = fZ H 0 2 := ⟨_, rfl⟩
  have ik0_2 : k0_2.toInt = (fZ H 0 2).toInt := by rw [← ek0_2]
  have bk0_2 : 0 ≤ k0_2.toInt ∧ k0_2.toInt ≤ 900 := by rw [ek0_2]; exact fZ_of hI sm_0 rfl
  have mkfr : kpM H H := kpM_r
  refine gG_call [(0, .ref 0), (1, .int a1)] ⟨rfl, rfl, trivial⟩ ?_
  show gG 4 zB_240 (mzBlk zB_240 0) [(0, .ref 0), (1, .int a1)] [] H 0 0 _
  refine g_aload_n rfl ?_
  refine g_iconst (by decide) (fun v493 kv493 => ?_)
  refine g_pfi hI sm_0 rfl (gz_any _) (fun H494 eH494 hIH494 => ?_)
  have hJH494 : JN H494 := JN_sF eH494 hJ
  have e495 : k0_2 = fZ H494 0 2 := by rw [eH494, fZ_sF_ne (by decide)]; exact ek0_2
  have m496 : kpM H H494 := kpM_F mkfr eH494 (by omega)
  refine g_iload_n rfl ?_
  refine g_invti rfl rfl rfl (s_205 a1 H494 hIH494 hJH494) (fun v499 H497 r498 => ?_)
  obtain ⟨rfl, bv499, p500⟩ := r498
  refine g_if_ne (fun c501 => ?_) (fun c501 => ?_)
  · refine g_aload_n rfl ?_
    refine g_invvv hIH494 sm_0 rfl rfl rfl rfl (s_182 H494 hIH494 hJH494) (fun H502 r503 => ?_)
    obtain ⟨hIH502, hJH502, m504, m505, m506, p507⟩ := r503
    have e508 : k0_2 = fZ H502 0 2 := e495.trans (m504 0 2).symm
    have m509 : kpM H H502 := kpM_t m496 m506
    refine g_aload_n rfl ?_
    refine g_invvv hIH502 sm_0 rfl rfl rfl rfl (s_184 H502 hIH502 hJH502) (fun H510 r511 => ?_)
    obtain ⟨hIH510, hJH510, w512, w513, w514, w515, m516, m517, m518, p519⟩ := r511
    have e520 : k0_2 = fZ H510 0 2 := e508.trans w512.symm
    have m521 : kpM H H510 := kpM_t m509 m518
    refine g_iconst (by decide) (fun v522 kv522 => ?_)
    refine g_istore_n (l' := [(0, .ref 0), (1, .int a1), (2, .int v522)]) rfl rfl ?_
    refine g_iconst (by decide) (fun v523 kv523 => ?_)
    refine g_istore_n (l' := [(0, .ref 0), (1, .int a1), (2, .int v522), (3, .int v523)]) rfl rfl ?_
    refine g_nop ?_
    have L529 : ∀ (N : Nat) (v524 : Int32) (v525 : Int32) (H526 : mzH), gI SM H526 → JM H526 → k0_2 = fZ H526 0 2 → kpM H H526 → (0 ≤ v525.toInt ∧ v525.toInt ≤ 60) → (60 - v525.toInt).toNat < N → gG 4 zB_240 (mzBlk zB_240 2) [(0, .ref 0), (1, .int a1), (2, .int v524), (3, .int v525)] [] H526 0 0 (gRi (fun v H' => gI SM H' ∧ JN H' ∧ fZ H' 0 2 = fZ H 0 2 ∧ kpM H H')) := by
      intro N
      induction N with
      | zero => intro v524 v525 H526 hIH526 hJH526 e527 m528 bv525 hmL529; exact absurd hmL529 (Nat.not_lt_zero _)
      | succ N ihL529 =>
        intro v524 v525 H526 hIH526 hJH526 e527 m528 bv525 hmL529
        refine g_iload_n rfl ?_
        refine g_aload_n rfl ?_
        refine g_gfi hIH526 sm_0 rfl (fun v530 ev530 lv530 uv530 => ?_)
        refine g_if2_ge (fun c531 => ?_) (fun c531 => ?_)
        · refine g_aload_n rfl ?_
          refine g_gfr hIH526 sm_0 rfl ?_
          refine g_iload_n rfl ?_
          refine g_baload hIH526 sm_7 rfl (by omega) (fun v532 ev532 lv532 uv532 => ?_)
          refine g_if_eq (fun c533 => ?_) (fun c533 => ?_)
          · refine g_bipush (by decide) (fun v534 kv534 => ?_)
            refine g_nop ?_
            exact g_iret ⟨_, rfl, hIH526, (JM_n hJH526), (e527.symm.trans ek0_2), m528⟩
          · refine g_iload_n rfl ?_
            refine g_goto ?_
            exact g_iret ⟨_, rfl, hIH526, (JM_n hJH526), (e527.symm.trans ek0_2), m528⟩
        · refine g_aload_n rfl ?_
          refine g_aload_n rfl ?_
          refine g_gfr hIH526 sm_0 rfl ?_
          refine g_iload_n rfl ?_
          refine g_iaload hIH526 sm_19 rfl (by omega) (fun v535 ev535 lv535 uv535 => ?_)
          refine g_invvv hIH526 sm_0 rfl rfl rfl rfl (s_192 v535 (by omega) H526 hIH526 hJH526) (fun H536 r537 => ?_)
          obtain ⟨hIH536, hJH536, m538, m539, m540, m541, m542⟩ := r537
          have e543 : k0_2 = fZ H536 0 2 := e527.trans (m538 0 2).symm
          have m544 : kpM H H536 := kpM_t m528 m542
          refine g_aload_n rfl ?_
          refine g_iload_n rfl ?_
          refine g_invvi hIH536 sm_0 rfl rfl rfl rfl (s_207 a1 H536 hIH536 hJH536) (fun v547 H545 r546 => ?_)
          obtain rfl := r546
          refine g_iload_n rfl ?_
          refine g_if2_le (fun c548 => ?_) (fun c548 => ?_)
          · refine g_iload_n rfl ?_
            refine g_nop ?_
            refine g_istore_n (l' := [(0, .ref 0), (1, .int a1), (2, .int v524), (3, .int v525)]) rfl rfl ?_
            refine g_iinc (l' := (fun v549 => [(0, .ref 0), (1, .int a1), (2, .int v524), (3, .int v549)])) rfl rfl (by decide) (by omega) (fun _ => rfl) (fun v549 ev549 => ?_)
            refine g_goto ?_
            exact ihL529 v524 v549 H536 hIH536 hJH536 e543 m544 (by omega) (by omega)
          · refine g_aload_n rfl ?_
            refine g_iload_n rfl ?_
            refine g_invvi hIH536 sm_0 rfl rfl rfl rfl (s_207 a1 H536 hIH536 hJH536) (fun v552 H550 r551 => ?_)
            obtain rfl := r551
            refine g_goto ?_
            refine g_istore_n (l' := [(0, .ref 0), (1, .int a1), (2, .int v552), (3, .int v525)]) rfl rfl ?_
            refine g_iinc (l' := (fun v553 => [(0, .ref 0), (1, .int a1), (2, .int v552), (3, .int v553)])) rfl rfl (by decide) (by omega) (fun _ => rfl) (fun v553 ev553 => ?_)
            refine g_goto ?_
            exact ihL529 v552 v553 H536 hIH536 hJH536 e543 m544 (by omega) (by omega)
    exact L529 _ v522 v523 H510 hIH510 hJH510 e520 m521 (by omega) (Nat.lt_succ_self _)
  · refine g_iconst (by decide) (fun v554 kv554 => ?_)
    exact g_iret ⟨_, rfl, hIH494, hJH494, (e495.symm.trans ek0_2), m496⟩
set_option maxRecDepth 4000 in
set_option maxHeartbeats 4000000 in
/-- M.bitsIn -/
theorem s_241 (a1 : Int32) (H : mzH) (hI : gI SM H) (hJ : JM H) : gCall 241 [.ref 0, .int a1] H (gRl (fun _ H' => H = H')) := by
  refine gG_call [(0, .ref 0), (1, .int a1)] ⟨rfl, rfl, trivial⟩ ?_
  show gG 5 zB_241 (mzBlk zB_241 0) [(0, .ref 0), (1, .int a1)] [] H 0 0 _
  refine g_lconst (fun v177 _ => ?_)
  refine g_lstore_n (l' := [(0, .ref 0), (1, .int a1), (2, .long v177)]) rfl rfl ?_
  refine g_iconst (by decide) (fun v178 kv178 => ?_)
  refine g_istore (l' := [(0, .ref 0), (1, .int a1), (2, .long v177), (4, .int v178)]) rfl rfl ?_
  refine g_nop ?_
  have L181 : ∀ (N : Nat) (v179 : Int64) (v180 : Int32), (0 ≤ v180.toInt ∧ v180.toInt ≤ 40) → (40 - v180.toInt).toNat < N → gG 5 zB_241 (mzBlk zB_241 1) [(0, .ref 0), (1, .int a1), (2, .long v179), (4, .int v180)] [] H 0 0 (gRl (fun _ H' => H = H')) := by
    intro N
    induction N with
    | zero => intro v179 v180 bv180 hmL181; exact absurd hmL181 (Nat.not_lt_zero _)
    | succ N ihL181 =>
      intro v179 v180 bv180 hmL181
      refine g_iload rfl ?_
      refine g_bipush (by decide) (fun v182 kv182 => ?_)
      refine g_if2_ge (fun c183 => ?_) (fun c183 => ?_)
      · refine g_lload_n rfl ?_
        exact g_lret ⟨_, rfl, rfl⟩
      · refine g_aload_n rfl ?_
        refine g_iload rfl ?_
        refine g_iload_n rfl ?_
        refine g_invvi hI sm_0 rfl rfl rfl rfl (s_186 v180 (by omega) a1 H hI hJ) (fun v186 H184 r185 => ?_)
        obtain ⟨rfl, bv186⟩ := r185
        refine g_if_eq (fun c187 => ?_) (fun c187 => ?_)
        · refine g_iinc (l' := (fun v188 => [(0, .ref 0), (1, .int a1), (2, .long v179), (4, .int v188)])) rfl rfl (by decide) (by omega) (fun _ => rfl) (fun v188 ev188 => ?_)
          refine g_goto ?_
          exact ihL181 v179 v188 (by omega) (by omega)
        · refine g_lload_n rfl ?_
          refine g_lconst (fun v189 _ => ?_)
          refine g_iload rfl ?_
          refine g_lshl (fun v190 _ => ?_)
          refine g_lor (fun v191 _ => ?_)
          refine g_lstore_n (l' := [(0, .ref 0), (1, .int a1), (2, .long v191), (4, .int v180)]) rfl rfl ?_
          refine g_nop ?_
          refine g_iinc (l' := (fun v192 => [(0, .ref 0), (1, .int a1), (2, .long v191), (4, .int v192)])) rfl rfl (by decide) (by omega) (fun _ => rfl) (fun v192 ev192 => ?_)
          refine g_goto ?_
          exact ihL181 v191 v192 (by omega) (by omega)
  exact L181 _ v177 v178 (by omega) (Nat.lt_succ_self _)
set_option maxRecDepth 4000 in
set_option maxHeartbeats 4000000 in
/-- M.still -/
theorem s_242 (a1 : Int32) (a2 : Int32) (H : mzH) (hI : gI SM H) (hJ : JN H) : gCall 242 [.ref 0, .int a1, .int a2] H (gRi (fun v H' => gI SM H' ∧ JN H' ∧ fZ H' 0 2 = fZ H 0 2 ∧ kpM H H')) := by
  obtain ⟨k0_2, ek0_2⟩ : ∃ z, z = fZ H 0 2 := ⟨_, rfl⟩
  have ik0_2 : k0_2.toInt = (fZ H 0 2).toInt := by rw [← ek0_2]
  have bk0_2 : 0 ≤ k0_2.toInt ∧ k0_2.toInt ≤ 900 := by rw [ek0_2]; exact fZ_of hI sm_0 rfl
  have mkfr : kpM H H := kpM_r
  refine gG_call [(0, .ref 0), (1, .int a1), (2, .int a2)] ⟨rfl, rfl, rfl, trivial⟩ ?_
  show gG 8 zB_242 (mzBlk zB_242 0) [(0, .ref 0), (1, .int a1), (2, .int a2)] [] H 0 0 _
  refine g_aload_n rfl ?_
  refine g_iconst (by decide) (fun v835 kv835 => ?_)
  refine g_pfi hI sm_0 rfl (gz_any _) (fun H836 eH836 hIH836 => ?_)
  have hJH836 : JN H836 := JN_sF eH836 hJ
  have e837 : k0_2 = fZ H836 0 2 := by rw [eH836, fZ_sF_ne (by decide)]; exact ek0_2
  have m838 : kpM H H836 := kpM_F mkfr eH836 (by omega)
  refine g_iload_n rfl ?_
  refine g_invti rfl rfl rfl (s_205 a1 H836 hIH836 hJH836) (fun v841 H839 r840 => ?_)
  obtain ⟨rfl, bv841, p842⟩ := r840
  refine g_if_eq (fun c843 => ?_) (fun c843 => ?_)
  · refine g_iconst (by decide) (fun v844 kv844 => ?_)
    exact g_iret ⟨_, rfl, hIH836, hJH836, (e837.symm.trans ek0_2), m838⟩
  · refine g_iload_n rfl ?_
    refine g_invti rfl rfl rfl (s_206 a2 H836 hIH836 hJH836) (fun v847 H845 r846 => ?_)
    obtain ⟨rfl, bv847⟩ := r846
    refine g_if_ne (fun c848 => ?_) (fun c848 => ?_)
    · refine g_aload_n rfl ?_
      refine g_invvv hIH836 sm_0 rfl rfl rfl rfl (s_182 H836 hIH836 hJH836) (fun H849 r850 => ?_)
      obtain ⟨hIH849, hJH849, m851, m852, m853, p854⟩ := r850
      have e855 : k0_2 = fZ H849 0 2 := e837.trans (m851 0 2).symm
      have m856 : kpM H H849 := kpM_t m838 m853
      refine g_aload_n rfl ?_
      refine g_invvv hIH849 sm_0 rfl rfl rfl rfl (s_184 H849 hIH849 hJH849) (fun H857 r858 => ?_)
      obtain ⟨hIH857, hJH857, w859, w860, w861, w862, m863, m864, m865, p866⟩ := r858
      have e867 : k0_2 = fZ H857 0 2 := e855.trans w859.symm
      have m868 : kpM H H857 := kpM_t m856 m865
      refine g_bipush (by decide) (fun v869 kv869 => ?_)
      refine g_istore_n (l' := [(0, .ref 0), (1, .int a1), (2, .int a2), (3, .int v869)]) rfl rfl ?_
      refine g_iconst (by decide) (fun v870 kv870 => ?_)
      refine g_istore (l' := [(0, .ref 0), (1, .int a1), (2, .int a2), (3, .int v869), (4, .int v870)]) rfl rfl ?_
      refine g_nop ?_
      have L876 : ∀ (N : Nat) (v871 : Int32) (v872 : Int32) (H873 : mzH), gI SM H873 → JM H873 → k0_2 = fZ H873 0 2 → kpM H H873 → (0 ≤ v872.toInt ∧ v872.toInt ≤ 60) → (60 - v872.toInt).toNat < N → gG 8 zB_242 (mzBlk zB_242 3) [(0, .ref 0), (1, .int a1), (2, .int a2), (3, .int v871), (4, .int v872)] [] H873 0 0 (gRi (fun v H' => gI SM H' ∧ JN H' ∧ fZ H' 0 2 = fZ H 0 2 ∧ kpM H H')) := by
        intro N
        induction N with
        | zero => intro v871 v872 H873 hIH873 hJH873 e874 m875 bv872 hmL876; exact absurd hmL876 (Nat.not_lt_zero _)
        | succ N ihL876 =>
          intro v871 v872 H873 hIH873 hJH873 e874 m875 bv872 hmL876
          refine g_iload rfl ?_
          refine g_aload_n rfl ?_
          refine g_gfi hIH873 sm_0 rfl (fun v877 ev877 lv877 uv877 => ?_)
          refine g_if2_ge (fun c878 => ?_) (fun c878 => ?_)
          · refine g_aload_n rfl ?_
            refine g_gfr hIH873 sm_0 rfl ?_
            refine g_iload_n rfl ?_
            refine g_baload hIH873 sm_7 rfl (by omega) (fun v879 ev879 lv879 uv879 => ?_)
            refine g_if_ne (fun c880 => ?_) (fun c880 => ?_)
            · refine g_aload_n rfl ?_
              refine g_gfr hIH873 sm_0 rfl ?_
              refine g_iload_n rfl ?_
              refine g_baload hIH873 sm_16 rfl (by omega) (fun v881 ev881 lv881 uv881 => ?_)
              refine g_if_eq (fun c882 => ?_) (fun c882 => ?_)
              · refine g_iload_n rfl ?_
                refine g_nop ?_
                exact g_iret ⟨_, rfl, hIH873, (JM_n hJH873), (e874.symm.trans ek0_2), m875⟩
              · refine g_bipush (by decide) (fun v883 kv883 => ?_)
                refine g_goto ?_
                exact g_iret ⟨_, rfl, hIH873, (JM_n hJH873), (e874.symm.trans ek0_2), m875⟩
            · refine g_bipush (by decide) (fun v884 kv884 => ?_)
              refine g_goto ?_
              exact g_iret ⟨_, rfl, hIH873, (JM_n hJH873), (e874.symm.trans ek0_2), m875⟩
          · refine g_aload_n rfl ?_
            refine g_gfr hIH873 sm_0 rfl ?_
            refine g_aload_n rfl ?_
            refine g_gfr hIH873 sm_0 rfl ?_
            refine g_iload rfl ?_
            refine g_iaload hIH873 sm_19 rfl (by omega) (fun v885 ev885 lv885 uv885 => ?_)
            refine g_iaload hIH873 sm_18 rfl (by omega) (fun v886 ev886 lv886 uv886 => ?_)
            refine g_iload_n rfl ?_
            refine g_if2_gt (fun c887 => ?_) (fun c887 => ?_)
            · refine g_aload_n rfl ?_
              refine g_gfr hIH873 sm_0 rfl ?_
              refine g_iload_n rfl ?_
              refine g_baload hIH873 sm_7 rfl (by omega) (fun v888 ev888 lv888 uv888 => ?_)
              refine g_if_ne (fun c889 => ?_) (fun c889 => ?_)
              · refine g_aload_n rfl ?_
                refine g_gfr hIH873 sm_0 rfl ?_
                refine g_iload_n rfl ?_
                refine g_baload hIH873 sm_16 rfl (by omega) (fun v890 ev890 lv890 uv890 => ?_)
                refine g_if_eq (fun c891 => ?_) (fun c891 => ?_)
                · refine g_iload_n rfl ?_
                  refine g_nop ?_
                  exact g_iret ⟨_, rfl, hIH873, (JM_n hJH873), (e874.symm.trans ek0_2), m875⟩
                · refine g_bipush (by decide) (fun v892 kv892 => ?_)
                  refine g_goto ?_
                  exact g_iret ⟨_, rfl, hIH873, (JM_n hJH873), (e874.symm.trans ek0_2), m875⟩
              · refine g_bipush (by decide) (fun v893 kv893 => ?_)
                refine g_goto ?_
                exact g_iret ⟨_, rfl, hIH873, (JM_n hJH873), (e874.symm.trans ek0_2), m875⟩
            · refine g_aload_n rfl ?_
              refine g_gfr hIH873 sm_0 rfl ?_
              refine g_iload_n rfl ?_
              refine g_baload hIH873 sm_7 rfl (by omega) (fun v894 ev894 lv894 uv894 => ?_)
              refine g_istore (l' := [(0, .ref 0), (1, .int a1), (2, .int a2), (3, .int v871), (4, .int v872), (5, .int v894)]) rfl rfl ?_
              refine g_aload_n rfl ?_
              refine g_iload_n rfl ?_
              refine g_invvl hIH873 sm_0 rfl rfl rfl rfl (s_241 a1 H873 hIH873 hJH873) (fun v897 H895 r896 => ?_)
              obtain rfl := r896
              refine g_lstore (l' := [(0, .ref 0), (1, .int a1), (2, .int a2), (3, .int v871), (4, .int v872), (5, .int v894), (6, .long v897)]) rfl rfl ?_
              refine g_aload_n rfl ?_
              refine g_aload_n rfl ?_
              refine g_gfr hIH873 sm_0 rfl ?_
              refine g_iload rfl ?_
              refine g_ialoadk hIH873 sm_19 rfl (by omega) ev885 ?_
              refine g_invvv hIH873 sm_0 rfl rfl rfl rfl (s_192 v885 (by omega) H873 hIH873 hJH873) (fun H898 r899 => ?_)
              obtain ⟨hIH898, hJH898, m900, m901, m902, m903, m904⟩ := r899
              have e905 : k0_2 = fZ H898 0 2 := e874.trans (m900 0 2).symm
              have m906 : kpM H H898 := kpM_t m875 m904
              refine g_aload_n rfl ?_
              refine g_gfr hIH898 sm_0 rfl ?_
              refine g_iload_n rfl ?_
              refine g_baload hIH898 sm_7 rfl (by omega) (fun v907 ev907 lv907 uv907 => ?_)
              refine g_if_eq (fun c908 => ?_) (fun c908 => ?_)
              · refine g_iinc (l' := (fun v909 => [(0, .ref 0), (1, .int a1), (2, .int a2), (3, .int v871), (4, .int v909), (5, .int v894), (6, .long v897)])) rfl rfl (by decide) (by omega) (fun _ => rfl) (fun v909 ev909 => ?_)
                refine g_goto ?_
                refine gG_pick [0, 1, 2, 3, 4] (l' := [(0, .ref 0), (1, .int a1), (2, .int a2), (3, .int v871), (4, .int v909)]) rfl ?_
                exact ihL876 v871 v909 H898 hIH898 hJH898 e905 m906 (by omega) (by omega)
              · refine g_iload rfl ?_
                refine g_if_eq (fun c910 => ?_) (fun c910 => ?_)
                · refine g_aload_n rfl ?_
                  refine g_gfr hIH898 sm_0 rfl ?_
                  refine g_aload_n rfl ?_
                  refine g_gfr hIH898 sm_0 rfl ?_
                  refine g_iload rfl ?_
                  refine g_iaload hIH898 sm_19 rfl (by omega) (fun v911 ev911 lv911 uv911 => ?_)
                  refine g_iaload hIH898 sm_18 rfl (by omega) (fun v912 ev912 lv912 uv912 => ?_)
                  refine g_istore_n (l' := [(0, .ref 0), (1, .int a1), (2, .int a2), (3, .int v912), (4, .int v872), (5, .int v894), (6, .long v897)]) rfl rfl ?_
                  refine g_nop ?_
                  refine g_iinc (l' := (fun v913 => [(0, .ref 0), (1, .int a1), (2, .int a2), (3, .int v912), (4, .int v913), (5, .int v894), (6, .long v897)])) rfl rfl (by decide) (by omega) (fun _ => rfl) (fun v913 ev913 => ?_)
                  refine g_goto ?_
                  refine gG_pick [0, 1, 2, 3, 4] (l' := [(0, .ref 0), (1, .int a1), (2, .int a2), (3, .int v912), (4, .int v913)]) rfl ?_
                  exact ihL876 v912 v913 H898 hIH898 hJH898 e905 m906 (by omega) (by omega)
                · refine g_aload_n rfl ?_
                  refine g_iload_n rfl ?_
                  refine g_invvl hIH898 sm_0 rfl rfl rfl rfl (s_241 a1 H898 hIH898 hJH898) (fun v916 H914 r915 => ?_)
                  obtain rfl := r915
                  refine g_lload rfl ?_
                  refine g_lcmp (fun v917 _ => ?_)
                  refine g_if_eq (fun c918 => ?_) (fun c918 => ?_)
                  · refine g_iinc (l' := (fun v919 => [(0, .ref 0), (1, .int a1), (2, .int a2), (3, .int v871), (4, .int v919), (5, .int v894), (6, .long v897)])) rfl rfl (by decide) (by omega) (fun _ => rfl) (fun v919 ev919 => ?_)
                    refine g_goto ?_
                    refine gG_pick [0, 1, 2, 3, 4] (l' := [(0, .ref 0), (1, .int a1), (2, .int a2), (3, .int v871), (4, .int v919)]) rfl ?_
                    exact ihL876 v871 v919 H898 hIH898 hJH898 e905 m906 (by omega) (by omega)
                  · refine g_nop ?_
                    refine g_aload_n rfl ?_
                    refine g_gfr hIH898 sm_0 rfl ?_
                    refine g_aload_n rfl ?_
                    refine g_gfr hIH898 sm_0 rfl ?_
                    refine g_iload rfl ?_
                    refine g_iaload hIH898 sm_19 rfl (by omega) (fun v920 ev920 lv920 uv920 => ?_)
                    refine g_iaload hIH898 sm_18 rfl (by omega) (fun v921 ev921 lv921 uv921 => ?_)
                    refine g_istore_n (l' := [(0, .ref 0), (1, .int a1), (2, .int a2), (3, .int v921), (4, .int v872), (5, .int v894), (6, .long v897)]) rfl rfl ?_
                    refine g_nop ?_
                    refine g_iinc (l' := (fun v922 => [(0, .ref 0), (1, .int a1), (2, .int a2), (3, .int v921), (4, .int v922), (5, .int v894), (6, .long v897)])) rfl rfl (by decide) (by omega) (fun _ => rfl) (fun v922 ev922 => ?_)
                    refine g_goto ?_
                    refine gG_pick [0, 1, 2, 3, 4] (l' := [(0, .ref 0), (1, .int a1), (2, .int a2), (3, .int v921), (4, .int v922)]) rfl ?_
                    exact ihL876 v921 v922 H898 hIH898 hJH898 e905 m906 (by omega) (by omega)
      exact L876 _ v869 v870 H857 hIH857 hJH857 e867 m868 (by omega) (Nat.lt_succ_self _)
    · refine g_nop ?_
      refine g_iconst (by decide) (fun v923 kv923 => ?_)
      exact g_iret ⟨_, rfl, hIH836, hJH836, (e837.symm.trans ek0_2), m838⟩
set_option maxRecDepth 4000 in
set_option maxHeartbeats 4000000 in
/-- M.components -/
theorem s_243 (a1 : Int32) (a2 : Int32) (H : mzH) (hI : gI SM H) (hJ : JN H) : gCall 243 [.ref 0, .int a1, .int a2] H (gRi (fun v H' => gI SM H' ∧ JN H' ∧ fZ H' 0 2 = fZ H 0 2 ∧ kpM H H')) := by
  obtain ⟨k0_2, ek0_2⟩ : ∃ z, z = fZ H 0 2 := ⟨_, rfl⟩
  have ik0_2 : k0_2.toInt = (fZ H 0 2).toInt := by rw [← ek0_2]
  have bk0_2 : 0 ≤ k0_2.toInt ∧ k0_2.toInt ≤ 900 := by rw [ek0_2]; exact fZ_of hI sm_0 rfl
  have mkfr : kpM H H := kpM_r
  refine gG_call [(0, .ref 0), (1, .int a1), (2, .int a2)] ⟨rfl, rfl, rfl, trivial⟩ ?_
  show gG 6 zB_243 (mzBlk zB_243 0) [(0, .ref 0), (1, .int a1), (2, .int a2)] [] H 0 0 _
  refine g_aload_n rfl ?_
  refine g_iconst (by decide) (fun v1503 kv1503 => ?_)
  refine g_pfi hI sm_0 rfl (gz_any _) (fun H1504 eH1504 hIH1504 => ?_)
  have hJH1504 : JN H1504 := JN_sF eH1504 hJ
  have e1505 : k0_2 = fZ H1504 0 2 := by rw [eH1504, fZ_sF_ne (by decide)]; exact ek0_2
  have m1506 : kpM H H1504 := kpM_F mkfr eH1504 (by omega)
  refine g_aload_n rfl ?_
  refine g_iload_n rfl ?_
  refine g_invvi hIH1504 sm_0 rfl rfl rfl rfl (s_210 a1 H1504 hIH1504 hJH1504) (fun v1509 H1507 r1508 => ?_)
  obtain ⟨rfl, bv1509, p1510⟩ := r1508
  refine g_if_eq (fun c1511 => ?_) (fun c1511 => ?_)
  · refine g_iconst (by decide) (fun v1512 kv1512 => ?_)
    exact g_iret ⟨_, rfl, hIH1504, hJH1504, (e1505.symm.trans ek0_2), m1506⟩
  · refine g_iload_n rfl ?_
    refine g_invti rfl rfl rfl (s_206 a2 H1504 hIH1504 hJH1504) (fun v1515 H1513 r1514 => ?_)
    obtain ⟨rfl, bv1515⟩ := r1514
    refine g_if_ne (fun c1516 => ?_) (fun c1516 => ?_)
    · refine g_aload_n rfl ?_
      refine g_iload_n rfl ?_
      refine g_invvv hIH1504 sm_0 rfl rfl rfl rfl (s_200 a2 H1504 hIH1504 hJH1504) (fun H1517 r1518 => ?_)
      obtain ⟨hIH1517, hJH1517, w1519, m1520⟩ := r1518
      have e1521 : k0_2 = fZ H1517 0 2 := e1505.trans w1519.symm
      have m1522 : kpM H H1517 := kpM_t m1506 m1520
      refine g_iconst (by decide) (fun v1523 kv1523 => ?_)
      refine g_istore_n (l' := [(0, .ref 0), (1, .int a1), (2, .int a2), (3, .int v1523)]) rfl rfl ?_
      refine g_iconst (by decide) (fun v1524 kv1524 => ?_)
      refine g_istore (l' := [(0, .ref 0), (1, .int a1), (2, .int a2), (3, .int v1523), (4, .int v1524)]) rfl rfl ?_
      refine g_nop ?_
      have L1527 : ∀ (N : Nat) (v1525 : Int32) (v1526 : Int32), (0 ≤ v1526.toInt ∧ v1526.toInt ≤ 40) → (40 - v1526.toInt).toNat < N → gG 6 zB_243 (mzBlk zB_243 3) [(0, .ref 0), (1, .int a1), (2, .int a2), (3, .int v1525), (4, .int v1526)] [] H1517 0 0 (gRi (fun v H' => gI SM H' ∧ JN H' ∧ fZ H' 0 2 = fZ H 0 2 ∧ kpM H H')) := by
        intro N
        induction N with
        | zero => intro v1525 v1526 bv1526 hmL1527; exact absurd hmL1527 (Nat.not_lt_zero _)
        | succ N ihL1527 =>
          intro v1525 v1526 bv1526 hmL1527
          refine g_iload rfl ?_
          refine g_bipush (by decide) (fun v1528 kv1528 => ?_)
          refine g_if2_ge (fun c1529 => ?_) (fun c1529 => ?_)
          · refine g_iload_n rfl ?_
            exact g_iret ⟨_, rfl, hIH1517, (JM_n hJH1517), (e1521.symm.trans ek0_2), m1522⟩
          · refine g_aload_n rfl ?_
            refine g_gfr hIH1517 sm_0 rfl ?_
            refine g_iload rfl ?_
            refine g_iaload hIH1517 sm_9 rfl (by omega) (fun v1530 ev1530 lv1530 uv1530 => ?_)
            have qv1530 := JM_in hJH1517 (by omega) ev1530
            refine g_bipush (by decide) (fun v1531 kv1531 => ?_)
            refine g_if2_eq (fun c1532 => ?_) (fun c1532 => ?_)
            · refine g_iconst (by decide) (fun v1533 kv1533 => ?_)
              refine g_goto ?_
              refine g_istore (l' := [(0, .ref 0), (1, .int a1), (2, .int a2), (3, .int v1525), (4, .int v1526), (5, .int v1533)]) rfl rfl ?_
              refine g_iload_n rfl ?_
              refine g_aload_n rfl ?_
              refine g_iload rfl ?_
              refine g_invvi hIH1517 sm_0 rfl rfl rfl rfl (s_201 v1526 (by omega) H1517 hIH1517 hJH1517) (fun v1536 H1534 r1535 => ?_)
              obtain ⟨rfl, bv1536⟩ := r1535
              refine g_iload_n rfl ?_
              refine g_if2_ne (fun c1537 => ?_) (fun c1537 => ?_)
              · refine g_iconst (by decide) (fun v1538 kv1538 => ?_)
                refine g_nop ?_
                refine g_iadd (by have := gz_any v1525; omega) (fun v1539 ev1539 => ?_)
                refine g_istore_n (l' := [(0, .ref 0), (1, .int a1), (2, .int a2), (3, .int v1539), (4, .int v1526), (5, .int v1533)]) rfl rfl ?_
                refine g_iinc (l' := (fun v1540 => [(0, .ref 0), (1, .int a1), (2, .int a2), (3, .int v1539), (4, .int v1540), (5, .int v1533)])) rfl rfl (by decide) (by omega) (fun _ => rfl) (fun v1540 ev1540 => ?_)
                refine g_goto ?_
                refine gG_pick [0, 1, 2, 3, 4] (l' := [(0, .ref 0), (1, .int a1), (2, .int a2), (3, .int v1539), (4, .int v1540)]) rfl ?_
                exact ihL1527 v1539 v1540 (by omega) (by omega)
              · refine g_iload rfl ?_
                refine g_if_eq (fun c1541 => ?_) (fun c1541 => ?_)
                · exfalso; omega
                · refine g_iconst (by decide) (fun v1542 kv1542 => ?_)
                  refine g_goto ?_
                  refine g_iadd' (fun v1543 ov1543 => ?_)
                  refine g_istore_n (l' := [(0, .ref 0), (1, .int a1), (2, .int a2), (3, .int v1543), (4, .int v1526), (5, .int v1533)]) rfl rfl ?_
                  refine g_iinc (l' := (fun v1544 => [(0, .ref 0), (1, .int a1), (2, .int a2), (3, .int v1543), (4, .int v1544), (5, .int v1533)])) rfl rfl (by decide) (by omega) (fun _ => rfl) (fun v1544 ev1544 => ?_)
                  refine g_goto ?_
                  refine gG_pick [0, 1, 2, 3, 4] (l' := [(0, .ref 0), (1, .int a1), (2, .int a2), (3, .int v1543), (4, .int v1544)]) rfl ?_
                  exact ihL1527 v1543 v1544 (by omega) (by omega)
            · refine g_aload_n rfl ?_
              refine g_gfr hIH1517 sm_0 rfl ?_
              refine g_aload_n rfl ?_
              refine g_gfr hIH1517 sm_0 rfl ?_
              refine g_iload rfl ?_
              refine g_ialoadk hIH1517 sm_9 rfl (by omega) ev1530 ?_
              refine g_baload hIH1517 sm_13 rfl (by omega) (fun v1545 ev1545 lv1545 uv1545 => ?_)
              refine g_if_eq (fun c1546 => ?_) (fun c1546 => ?_)
              · refine g_iconst (by decide) (fun v1547 kv1547 => ?_)
                refine g_nop ?_
                refine g_istore (l' := [(0, .ref 0), (1, .int a1), (2, .int a2), (3, .int v1525), (4, .int v1526), (5, .int v1547)]) rfl rfl ?_
                refine g_iload_n rfl ?_
                refine g_aload_n rfl ?_
                refine g_iload rfl ?_
                refine g_invvi hIH1517 sm_0 rfl rfl rfl rfl (s_201 v1526 (by omega) H1517 hIH1517 hJH1517) (fun v1550 H1548 r1549 => ?_)
                obtain ⟨rfl, bv1550⟩ := r1549
                refine g_iload_n rfl ?_
                refine g_if2_ne (fun c1551 => ?_) (fun c1551 => ?_)
                · refine g_iconst (by decide) (fun v1552 kv1552 => ?_)
                  refine g_nop ?_
                  refine g_iadd (by have := gz_any v1525; omega) (fun v1553 ev1553 => ?_)
                  refine g_istore_n (l' := [(0, .ref 0), (1, .int a1), (2, .int a2), (3, .int v1553), (4, .int v1526), (5, .int v1547)]) rfl rfl ?_
                  refine g_iinc (l' := (fun v1554 => [(0, .ref 0), (1, .int a1), (2, .int a2), (3, .int v1553), (4, .int v1554), (5, .int v1547)])) rfl rfl (by decide) (by omega) (fun _ => rfl) (fun v1554 ev1554 => ?_)
                  refine g_goto ?_
                  refine gG_pick [0, 1, 2, 3, 4] (l' := [(0, .ref 0), (1, .int a1), (2, .int a2), (3, .int v1553), (4, .int v1554)]) rfl ?_
                  exact ihL1527 v1553 v1554 (by omega) (by omega)
                · refine g_iload rfl ?_
                  refine g_if_eq (fun c1555 => ?_) (fun c1555 => ?_)
                  · refine g_iconst (by decide) (fun v1556 kv1556 => ?_)
                    refine g_nop ?_
                    refine g_iadd (by have := gz_any v1525; omega) (fun v1557 ev1557 => ?_)
                    refine g_istore_n (l' := [(0, .ref 0), (1, .int a1), (2, .int a2), (3, .int v1557), (4, .int v1526), (5, .int v1547)]) rfl rfl ?_
                    refine g_iinc (l' := (fun v1558 => [(0, .ref 0), (1, .int a1), (2, .int a2), (3, .int v1557), (4, .int v1558), (5, .int v1547)])) rfl rfl (by decide) (by omega) (fun _ => rfl) (fun v1558 ev1558 => ?_)
                    refine g_goto ?_
                    refine gG_pick [0, 1, 2, 3, 4] (l' := [(0, .ref 0), (1, .int a1), (2, .int a2), (3, .int v1557), (4, .int v1558)]) rfl ?_
                    exact ihL1527 v1557 v1558 (by omega) (by omega)
                  · exfalso; omega
              · refine g_nop ?_
                refine g_iconst (by decide) (fun v1559 kv1559 => ?_)
                refine g_goto ?_
                refine g_istore (l' := [(0, .ref 0), (1, .int a1), (2, .int a2), (3, .int v1525), (4, .int v1526), (5, .int v1559)]) rfl rfl ?_
                refine g_iload_n rfl ?_
                refine g_aload_n rfl ?_
                refine g_iload rfl ?_
                refine g_invvi hIH1517 sm_0 rfl rfl rfl rfl (s_201 v1526 (by omega) H1517 hIH1517 hJH1517) (fun v1562 H1560 r1561 => ?_)
                obtain ⟨rfl, bv1562⟩ := r1561
                refine g_iload_n rfl ?_
                refine g_if2_ne (fun c1563 => ?_) (fun c1563 => ?_)
                · refine g_iconst (by decide) (fun v1564 kv1564 => ?_)
                  refine g_nop ?_
                  refine g_iadd (by have := gz_any v1525; omega) (fun v1565 ev1565 => ?_)
                  refine g_istore_n (l' := [(0, .ref 0), (1, .int a1), (2, .int a2), (3, .int v1565), (4, .int v1526), (5, .int v1559)]) rfl rfl ?_
                  refine g_iinc (l' := (fun v1566 => [(0, .ref 0), (1, .int a1), (2, .int a2), (3, .int v1565), (4, .int v1566), (5, .int v1559)])) rfl rfl (by decide) (by omega) (fun _ => rfl) (fun v1566 ev1566 => ?_)
                  refine g_goto ?_
                  refine gG_pick [0, 1, 2, 3, 4] (l' := [(0, .ref 0), (1, .int a1), (2, .int a2), (3, .int v1565), (4, .int v1566)]) rfl ?_
                  exact ihL1527 v1565 v1566 (by omega) (by omega)
                · refine g_iload rfl ?_
                  refine g_if_eq (fun c1567 => ?_) (fun c1567 => ?_)
                  · exfalso; omega
                  · refine g_iconst (by decide) (fun v1568 kv1568 => ?_)
                    refine g_goto ?_
                    refine g_iadd' (fun v1569 ov1569 => ?_)
                    refine g_istore_n (l' := [(0, .ref 0), (1, .int a1), (2, .int a2), (3, .int v1569), (4, .int v1526), (5, .int v1559)]) rfl rfl ?_
                    refine g_iinc (l' := (fun v1570 => [(0, .ref 0), (1, .int a1), (2, .int a2), (3, .int v1569), (4, .int v1570), (5, .int v1559)])) rfl rfl (by decide) (by omega) (fun _ => rfl) (fun v1570 ev1570 => ?_)
                    refine g_goto ?_
                    refine gG_pick [0, 1, 2, 3, 4] (l' := [(0, .ref 0), (1, .int a1), (2, .int a2), (3, .int v1569), (4, .int v1570)]) rfl ?_
                    exact ihL1527 v1569 v1570 (by omega) (by omega)
      exact L1527 _ v1523 v1524 (by omega) (Nat.lt_succ_self _)
    · refine g_nop ?_
      refine g_iconst (by decide) (fun v1571 kv1571 => ?_)
      exact g_iret ⟨_, rfl, hIH1504, hJH1504, (e1505.symm.trans ek0_2), m1506⟩
set_option maxRecDepth 4000 in
set_option maxHeartbeats 4000000 in
/-- M.clash -/
theorem s_244 (a1 : Int32) (a2 : Int32) (a3 : Int32) (H : mzH) (hI : gI SM H) (hJ : JN H) : gCall 244 [.ref 0, .int a1, .int a2, .int a3] H (gRi (fun v H' => gI SM H' ∧ JN H' ∧ fZ H' 0 2 = fZ H 0 2 ∧ kpM H H')) := by
  obtain ⟨k0_2, ek0_2⟩ : ∃ z, z = fZ H 0 2 := ⟨_, rfl⟩
  have ik0_2 : k0_2.toInt = (fZ H 0 2).toInt := by rw [← ek0_2]
  have bk0_2 : 0 ≤ k0_2.toInt ∧ k0_2.toInt ≤ 900 := by rw [ek0_2]; exact fZ_of hI sm_0 rfl
  have mkfr : kpM H H := kpM_r
  refine gG_call [(0, .ref 0), (1, .int a1), (2, .int a2), (3, .int a3)] ⟨rfl, rfl, rfl, rfl, trivial⟩ ?_
  show gG 7 zB_244 (mzBlk zB_244 0) [(0, .ref 0), (1, .int a1), (2, .int a2), (3, .int a3)] [] H 0 0 _
  refine g_aload_n rfl ?_
  refine g_iconst (by decide) (fun v985 kv985 => ?_)
  refine g_pfi hI sm_0 rfl (gz_any _) (fun H986 eH986 hIH986 => ?_)
  have hJH986 : JN H986 := JN_sF eH986 hJ
  have e987 : k0_2 = fZ H986 0 2 := by rw [eH986, fZ_sF_ne (by decide)]; exact ek0_2
  have m988 : kpM H H986 := kpM_F mkfr eH986 (by omega)
  refine g_iload_n rfl ?_
  refine g_invti rfl rfl rfl (s_205 a1 H986 hIH986 hJH986) (fun v991 H989 r990 => ?_)
  obtain ⟨rfl, bv991, p992⟩ := r990
  refine g_if_eq (fun c993 => ?_) (fun c993 => ?_)
  · refine g_iconst (by decide) (fun v994 kv994 => ?_)
    exact g_iret ⟨_, rfl, hIH986, hJH986, (e987.symm.trans ek0_2), m988⟩
  · refine g_iload_n rfl ?_
    refine g_if_lt (fun c995 => ?_) (fun c995 => ?_)
    · refine g_iconst (by decide) (fun v996 kv996 => ?_)
      exact g_iret ⟨_, rfl, hIH986, hJH986, (e987.symm.trans ek0_2), m988⟩
    · refine g_iload_n rfl ?_
      refine g_if_lt (fun c997 => ?_) (fun c997 => ?_)
      · refine g_iconst (by decide) (fun v998 kv998 => ?_)
        exact g_iret ⟨_, rfl, hIH986, hJH986, (e987.symm.trans ek0_2), m988⟩
      · refine g_iload_n rfl ?_
        refine g_iconst (by decide) (fun v999 kv999 => ?_)
        refine g_if2_le (fun c1000 => ?_) (fun c1000 => ?_)
        · refine g_aload_n rfl ?_
          refine g_invvv hIH986 sm_0 rfl rfl rfl rfl (s_199 H986 hIH986 hJH986) (fun H1001 r1002 => ?_)
          obtain ⟨hIH1001, hJH1001, w1003, w1004, w1005, w1006, m1007, m1008, p1009⟩ := r1002
          have e1010 : k0_2 = fZ H1001 0 2 := e987.trans w1003.symm
          have m1011 : kpM H H1001 := kpM_t m988 m1008
          refine g_iload_n rfl ?_
          refine g_istore (l' := [(0, .ref 0), (1, .int a1), (2, .int a2), (3, .int a3), (4, .int a2)]) rfl rfl ?_
          refine g_iconst (by decide) (fun v1012 kv1012 => ?_)
          refine g_istore (l' := [(0, .ref 0), (1, .int a1), (2, .int a2), (3, .int a3), (4, .int a2), (5, .int v1012)]) rfl rfl ?_
          refine g_nop ?_
          have L1015 : ∀ (N : Nat) (v1013 : Int32) (v1014 : Int32), (0 ≤ v1013.toInt ∧ v1013.toInt ≤ 2147483647) → (0 ≤ v1014.toInt ∧ v1014.toInt ≤ 60) → (60 - v1014.toInt).toNat < N → gG 7 zB_244 (mzBlk zB_244 3) [(0, .ref 0), (1, .int a1), (2, .int a2), (3, .int a3), (4, .int v1013), (5, .int v1014)] [] H1001 0 0 (gRi (fun v H' => gI SM H' ∧ JN H' ∧ fZ H' 0 2 = fZ H 0 2 ∧ kpM H H')) := by
            intro N
            induction N with
            | zero => intro v1013 v1014 bv1013 bv1014 hmL1015; exact absurd hmL1015 (Nat.not_lt_zero _)
            | succ N ihL1015 =>
              intro v1013 v1014 bv1013 bv1014 hmL1015
              refine g_iload rfl ?_
              refine g_aload_n rfl ?_
              refine g_gfi hIH1001 sm_0 rfl (fun v1016 ev1016 lv1016 uv1016 => ?_)
              refine g_if2_ge (fun c1017 => ?_) (fun c1017 => ?_)
              · refine g_bipush (by decide) (fun v1018 kv1018 => ?_)
                exact g_iret ⟨_, rfl, hIH1001, (JM_n hJH1001), (e1010.symm.trans ek0_2), m1011⟩
              · refine g_aload_n rfl ?_
                refine g_gfr hIH1001 sm_0 rfl ?_
                refine g_iload rfl ?_
                refine g_iaload hIH1001 sm_19 rfl (by omega) (fun v1019 ev1019 lv1019 uv1019 => ?_)
                refine g_istore (l' := [(0, .ref 0), (1, .int a1), (2, .int a2), (3, .int a3), (4, .int v1013), (5, .int v1014), (6, .int v1019)]) rfl rfl ?_
                refine g_aload_n rfl ?_
                refine g_iload rfl ?_
                refine g_iconst (by decide) (fun v1020 kv1020 => ?_)
                refine g_invvi hIH1001 sm_0 rfl rfl rfl rfl (s_181 v1019 (by omega) v1020 (by omega) H1001 hIH1001 (JM_n hJH1001)) (fun v1023 H1021 r1022 => ?_)
                obtain ⟨rfl, p1024⟩ := r1022
                have tv1023 : v1023 = aZ H1001 2 (69 + 5 * v1019.toInt + 1).toNat := by rw [p1024, kv1020]
                have qv1023 := JN_w1 (JM_n hJH1001) (by omega) tv1023
                refine g_bipush (by decide) (fun v1025 kv1025 => ?_)
                refine g_if2_ne (fun c1026 => ?_) (fun c1026 => ?_)
                · refine g_iinc (l' := (fun v1027 => [(0, .ref 0), (1, .int a1), (2, .int a2), (3, .int a3), (4, .int v1013), (5, .int v1027), (6, .int v1019)])) rfl rfl (by decide) (by omega) (fun _ => rfl) (fun v1027 ev1027 => ?_)
                  refine g_goto ?_
                  refine gG_pick [0, 1, 2, 3, 4, 5] (l' := [(0, .ref 0), (1, .int a1), (2, .int a2), (3, .int a3), (4, .int v1013), (5, .int v1027)]) rfl ?_
                  exact ihL1015 v1013 v1027 (by have := gz_any v1013; omega) (by omega) (by omega)
                · refine g_aload_n rfl ?_
                  refine g_iload rfl ?_
                  refine g_iconst (by decide) (fun v1028 kv1028 => ?_)
                  refine g_invvi hIH1001 sm_0 rfl rfl rfl rfl (s_181 v1019 (by omega) v1028 (by omega) H1001 hIH1001 (JM_n hJH1001)) (fun v1031 H1029 r1030 => ?_)
                  obtain ⟨rfl, p1032⟩ := r1030
                  have tv1031 : v1031 = aZ H1001 2 (69 + 5 * v1019.toInt + 2).toNat := by rw [p1032, kv1028]
                  have qv1031 := JN_w2 (JM_n hJH1001) (by omega) tv1031
                  refine g_iload_n rfl ?_
                  refine g_if2_ne (fun c1033 => ?_) (fun c1033 => ?_)
                  · refine g_iinc (l' := (fun v1034 => [(0, .ref 0), (1, .int a1), (2, .int a2), (3, .int a3), (4, .int v1013), (5, .int v1034), (6, .int v1019)])) rfl rfl (by decide) (by omega) (fun _ => rfl) (fun v1034 ev1034 => ?_)
                    refine g_goto ?_
                    refine gG_pick [0, 1, 2, 3, 4, 5] (l' := [(0, .ref 0), (1, .int a1), (2, .int a2), (3, .int a3), (4, .int v1013), (5, .int v1034)]) rfl ?_
                    exact ihL1015 v1013 v1034 (by have := gz_any v1013; omega) (by omega) (by omega)
                  · refine g_aload_n rfl ?_
                    refine g_gfr hIH1001 sm_0 rfl ?_
                    refine g_iload rfl ?_
                    refine g_iaload hIH1001 sm_20 rfl (by omega) (fun v1035 ev1035 lv1035 uv1035 => ?_)
                    refine g_bipush (by decide) (fun v1036 kv1036 => ?_)
                    refine g_if2_eq (fun c1037 => ?_) (fun c1037 => ?_)
                    · refine g_iload rfl ?_
                      refine g_if_ne (fun c1038 => ?_) (fun c1038 => ?_)
                      · refine g_iinc (l' := (fun v1039 => [(0, .ref 0), (1, .int a1), (2, .int a2), (3, .int a3), (4, .int v1039), (5, .int v1014), (6, .int v1019)])) rfl rfl (by decide) (by have := gz_any v1013; omega) (fun _ => rfl) (fun v1039 ev1039 => ?_)
                        refine g_nop ?_
                        refine g_iinc (l' := (fun v1040 => [(0, .ref 0), (1, .int a1), (2, .int a2), (3, .int a3), (4, .int v1039), (5, .int v1040), (6, .int v1019)])) rfl rfl (by decide) (by omega) (fun _ => rfl) (fun v1040 ev1040 => ?_)
                        refine g_goto ?_
                        refine gG_pick [0, 1, 2, 3, 4, 5] (l' := [(0, .ref 0), (1, .int a1), (2, .int a2), (3, .int a3), (4, .int v1039), (5, .int v1040)]) rfl ?_
                        exact ihL1015 v1039 v1040 (by have := gz_any v1039; omega) (by omega) (by omega)
                      · refine g_iload_n rfl ?_
                        refine g_if_ne (fun c1041 => ?_) (fun c1041 => ?_)
                        · refine g_iload_n rfl ?_
                          refine g_iconst (by decide) (fun v1042 kv1042 => ?_)
                          refine g_if2_ne (fun c1043 => ?_) (fun c1043 => ?_)
                          · refine g_iload rfl ?_
                            refine g_nop ?_
                            exact g_iret ⟨_, rfl, hIH1001, (JM_n hJH1001), (e1010.symm.trans ek0_2), m1011⟩
                          · refine g_aload_n rfl ?_
                            refine g_iload rfl ?_
                            refine g_iconst (by decide) (fun v1044 kv1044 => ?_)
                            refine g_invvi hIH1001 sm_0 rfl rfl rfl rfl (s_181 v1019 (by omega) v1044 (by omega) H1001 hIH1001 (JM_n hJH1001)) (fun v1047 H1045 r1046 => ?_)
                            obtain ⟨rfl, p1048⟩ := r1046
                            have tv1047 : v1047 = aZ H1001 2 (69 + 5 * v1019.toInt + 0).toNat := by rw [p1048, kv1044]
                            refine g_goto ?_
                            exact g_iret ⟨_, rfl, hIH1001, (JM_n hJH1001), (e1010.symm.trans ek0_2), m1011⟩
                        · refine g_aload_n rfl ?_
                          refine g_iload rfl ?_
                          refine g_iconst (by decide) (fun v1049 kv1049 => ?_)
                          refine g_invvi hIH1001 sm_0 rfl rfl rfl rfl (s_181 v1019 (by omega) v1049 (by omega) H1001 hIH1001 (JM_n hJH1001)) (fun v1052 H1050 r1051 => ?_)
                          obtain ⟨rfl, p1053⟩ := r1051
                          have tv1052 : v1052 = aZ H1001 2 (69 + 5 * v1019.toInt + 3).toNat := by rw [p1053, kv1049]
                          have qv1052 := JN_w3 (JM_n hJH1001) (by omega) tv1023 tv1052
                          refine g_goto ?_
                          exact g_iret ⟨_, rfl, hIH1001, (JM_n hJH1001), (e1010.symm.trans ek0_2), m1011⟩
                    · refine g_aload_n rfl ?_
                      refine g_gfr hIH1001 sm_0 rfl ?_
                      refine g_iload rfl ?_
                      refine g_ialoadk hIH1001 sm_20 rfl (by omega) ev1035 ?_
                      refine g_bipush (by decide) (fun v1054 kv1054 => ?_)
                      refine g_if2_eq (fun c1055 => ?_) (fun c1055 => ?_)
                      · refine g_iload rfl ?_
                        refine g_if_ne (fun c1056 => ?_) (fun c1056 => ?_)
                        · refine g_iinc (l' := (fun v1057 => [(0, .ref 0), (1, .int a1), (2, .int a2), (3, .int a3), (4, .int v1057), (5, .int v1014), (6, .int v1019)])) rfl rfl (by decide) (by have := gz_any v1013; omega) (fun _ => rfl) (fun v1057 ev1057 => ?_)
                          refine g_nop ?_
                          refine g_iinc (l' := (fun v1058 => [(0, .ref 0), (1, .int a1), (2, .int a2), (3, .int a3), (4, .int v1057), (5, .int v1058), (6, .int v1019)])) rfl rfl (by decide) (by omega) (fun _ => rfl) (fun v1058 ev1058 => ?_)
                          refine g_goto ?_
                          refine gG_pick [0, 1, 2, 3, 4, 5] (l' := [(0, .ref 0), (1, .int a1), (2, .int a2), (3, .int a3), (4, .int v1057), (5, .int v1058)]) rfl ?_
                          exact ihL1015 v1057 v1058 (by have := gz_any v1057; omega) (by omega) (by omega)
                        · refine g_iload_n rfl ?_
                          refine g_if_ne (fun c1059 => ?_) (fun c1059 => ?_)
                          · refine g_iload_n rfl ?_
                            refine g_iconst (by decide) (fun v1060 kv1060 => ?_)
                            refine g_if2_ne (fun c1061 => ?_) (fun c1061 => ?_)
                            · refine g_iload rfl ?_
                              refine g_nop ?_
                              exact g_iret ⟨_, rfl, hIH1001, (JM_n hJH1001), (e1010.symm.trans ek0_2), m1011⟩
                            · refine g_aload_n rfl ?_
                              refine g_iload rfl ?_
                              refine g_iconst (by decide) (fun v1062 kv1062 => ?_)
                              refine g_invvi hIH1001 sm_0 rfl rfl rfl rfl (s_181 v1019 (by omega) v1062 (by omega) H1001 hIH1001 (JM_n hJH1001)) (fun v1065 H1063 r1064 => ?_)
                              obtain ⟨rfl, p1066⟩ := r1064
                              have tv1065 : v1065 = aZ H1001 2 (69 + 5 * v1019.toInt + 0).toNat := by rw [p1066, kv1062]
                              refine g_goto ?_
                              exact g_iret ⟨_, rfl, hIH1001, (JM_n hJH1001), (e1010.symm.trans ek0_2), m1011⟩
                          · refine g_aload_n rfl ?_
                            refine g_iload rfl ?_
                            refine g_iconst (by decide) (fun v1067 kv1067 => ?_)
                            refine g_invvi hIH1001 sm_0 rfl rfl rfl rfl (s_181 v1019 (by omega) v1067 (by omega) H1001 hIH1001 (JM_n hJH1001)) (fun v1070 H1068 r1069 => ?_)
                            obtain ⟨rfl, p1071⟩ := r1069
                            have tv1070 : v1070 = aZ H1001 2 (69 + 5 * v1019.toInt + 3).toNat := by rw [p1071, kv1067]
                            have qv1070 := JN_w3 (JM_n hJH1001) (by omega) tv1023 tv1070
                            refine g_goto ?_
                            exact g_iret ⟨_, rfl, hIH1001, (JM_n hJH1001), (e1010.symm.trans ek0_2), m1011⟩
                      · refine g_goto ?_
                        refine g_iinc (l' := (fun v1072 => [(0, .ref 0), (1, .int a1), (2, .int a2), (3, .int a3), (4, .int v1013), (5, .int v1072), (6, .int v1019)])) rfl rfl (by decide) (by omega) (fun _ => rfl) (fun v1072 ev1072 => ?_)
                        refine g_goto ?_
                        refine gG_pick [0, 1, 2, 3, 4, 5] (l' := [(0, .ref 0), (1, .int a1), (2, .int a2), (3, .int a3), (4, .int v1013), (5, .int v1072)]) rfl ?_
                        exact ihL1015 v1013 v1072 (by have := gz_any v1013; omega) (by omega) (by omega)
          exact L1015 _ a2 v1012 (by have := gz_any a2; omega) (by omega) (Nat.lt_succ_self _)
        · refine g_nop ?_
          refine g_iconst (by decide) (fun v1073 kv1073 => ?_)
          exact g_iret ⟨_, rfl, hIH986, hJH986, (e987.symm.trans ek0_2), m988⟩
set_option maxRecDepth 4000 in
set_option maxHeartbeats 4000000 in
/-- M.soonest -/
theorem s_245 (a1 : Int32) (a2 : Int32) (a3 : Int32) (H : mzH) (hI : gI SM H) (hJ : JN H) : gCall 245 [.ref 0, .int a1, .int a2, .int a3] H (gRi (fun v H' => gI SM H' ∧ JN H' ∧ fZ H' 0 2 = fZ H 0 2 ∧ kpM H H')) := by
  obtain ⟨k0_2, ek0_2⟩ : ∃ z, z = fZ H 0 2 := ⟨_, rfl⟩
  have ik0_2 : k0_2.toInt = (fZ H 0 2).toInt := by rw [← ek0_2]
  have bk0_2 : 0 ≤ k0_2.toInt ∧ k0_2.toInt ≤ 900 := by rw [ek0_2]; exact fZ_of hI sm_0 rfl
  have mkfr : kpM H H := kpM_r
  refine gG_call [(0, .ref 0), (1, .int a1), (2, .int a2), (3, .int a3)] ⟨rfl, rfl, rfl, rfl, trivial⟩ ?_
  show gG 7 zB_245 (mzBlk zB_245 0) [(0, .ref 0), (1, .int a1), (2, .int a2), (3, .int a3)] [] H 0 0 _
  refine g_aload_n rfl ?_
  refine g_iconst (by decide) (fun v189 kv189 => ?_)
  refine g_pfi hI sm_0 rfl (gz_any _) (fun H190 eH190 hIH190 => ?_)
  have hJH190 : JN H190 := JN_sF eH190 hJ
  have e191 : k0_2 = fZ H190 0 2 := by rw [eH190, fZ_sF_ne (by decide)]; exact ek0_2
  have m192 : kpM H H190 := kpM_F mkfr eH190 (by omega)
  refine g_iload_n rfl ?_
  refine g_invti rfl rfl rfl (s_205 a1 H190 hIH190 hJH190) (fun v195 H193 r194 => ?_)
  obtain ⟨rfl, bv195, p196⟩ := r194
  refine g_if_eq (fun c197 => ?_) (fun c197 => ?_)
  · refine g_iconst (by decide) (fun v198 kv198 => ?_)
    exact g_iret ⟨_, rfl, hIH190, hJH190, (e191.symm.trans ek0_2), m192⟩
  · refine g_iload_n rfl ?_
    refine g_invti rfl rfl rfl (s_206 a2 H190 hIH190 hJH190) (fun v201 H199 r200 => ?_)
    obtain ⟨rfl, bv201⟩ := r200
    refine g_if_eq (fun c202 => ?_) (fun c202 => ?_)
    · refine g_iconst (by decide) (fun v203 kv203 => ?_)
      exact g_iret ⟨_, rfl, hIH190, hJH190, (e191.symm.trans ek0_2), m192⟩
    · refine g_aload_n rfl ?_
      refine g_iload_n rfl ?_
      refine g_invvi hIH190 sm_0 rfl rfl rfl rfl (s_210 a3 H190 hIH190 hJH190) (fun v206 H204 r205 => ?_)
      obtain ⟨rfl, bv206, p207⟩ := r205
      refine g_if_ne (fun c208 => ?_) (fun c208 => ?_)
      · refine g_aload_n rfl ?_
        refine g_iload_n rfl ?_
        refine g_invvv hIH190 sm_0 rfl rfl rfl rfl (s_200 a2 H190 hIH190 hJH190) (fun H209 r210 => ?_)
        obtain ⟨hIH209, hJH209, w211, m212⟩ := r210
        have e213 : k0_2 = fZ H209 0 2 := e191.trans w211.symm
        have m214 : kpM H H209 := kpM_t m192 m212
        refine g_aload_n rfl ?_
        refine g_iload_n rfl ?_
        refine g_invvi hIH209 sm_0 rfl rfl rfl rfl (s_201 a1 (by omega) H209 hIH209 hJH209) (fun v217 H215 r216 => ?_)
        obtain ⟨rfl, bv217⟩ := r216
        refine g_istore (l' := [(0, .ref 0), (1, .int a1), (2, .int a2), (3, .int a3), (4, .int v217)]) rfl rfl ?_
        refine g_iload rfl ?_
        refine g_if_lt (fun c218 => ?_) (fun c218 => ?_)
        · refine g_iload rfl ?_
          refine g_if_ge (fun c219 => ?_) (fun c219 => ?_)
          · exfalso; omega
          · refine g_iload rfl ?_
            refine g_goto ?_
            exact g_iret ⟨_, rfl, hIH209, (JM_n hJH209), (e213.symm.trans ek0_2), m214⟩
        · refine g_iload rfl ?_
          refine g_iload_n rfl ?_
          refine g_if2_ne (fun c220 => ?_) (fun c220 => ?_)
          · refine g_aload_n rfl ?_
            refine g_gfr hIH209 sm_0 rfl ?_
            refine g_bipush (by decide) (fun v221 kv221 => ?_)
            refine g_iload rfl ?_
            refine g_imulk' (n := 8) kv221 (by omega) (fun v222 ev222 => ?_)
            refine g_iload_n rfl ?_
            refine g_iadd (by omega) (fun v223 ev223 => ?_)
            refine g_iaload hIH209 sm_6 rfl (by omega) (fun v224 ev224 lv224 uv224 => ?_)
            refine g_istore (l' := [(0, .ref 0), (1, .int a1), (2, .int a2), (3, .int a3), (4, .int v217), (5, .int v224)]) rfl rfl ?_
            refine g_iload rfl ?_
            refine g_ldc (by decide) (fun v225 kv225 => ?_)
            refine g_if2_lt (fun c226 => ?_) (fun c226 => ?_)
            · refine g_aload_n rfl ?_
              refine g_gfr hIH209 sm_0 rfl ?_
              refine g_aload_n rfl ?_
              refine g_iload_n rfl ?_
              refine g_invvi hIH209 sm_0 rfl rfl rfl rfl (s_185 a1 (by omega) H209 hIH209 hJH209) (fun v229 H227 r228 => ?_)
              obtain ⟨rfl, bv229⟩ := r228
              refine g_iaload hIH209 sm_11 rfl (by omega) (fun v230 ev230 lv230 uv230 => ?_)
              refine g_iload rfl ?_
              refine g_iadd' (fun v231 ov231 => ?_)
              refine g_istore (l' := [(0, .ref 0), (1, .int a1), (2, .int a2), (3, .int a3), (4, .int v217), (5, .int v224), (6, .int v231)]) rfl rfl ?_
              refine g_iload rfl ?_
              refine g_iload_n rfl ?_
              refine g_if2_le (fun c232 => ?_) (fun c232 => ?_)
              · refine g_iload_n rfl ?_
                refine g_nop ?_
                exact g_iret ⟨_, rfl, hIH209, (JM_n hJH209), (e213.symm.trans ek0_2), m214⟩
              · refine g_iload rfl ?_
                refine g_goto ?_
                exact g_iret ⟨_, rfl, hIH209, (JM_n hJH209), (e213.symm.trans ek0_2), m214⟩
            · refine g_bipush (by decide) (fun v233 kv233 => ?_)
              exact g_iret ⟨_, rfl, hIH209, (JM_n hJH209), (e213.symm.trans ek0_2), m214⟩
          · refine g_nop ?_
            refine g_iload rfl ?_
            refine g_if_ge (fun c234 => ?_) (fun c234 => ?_)
            · refine g_iload_n rfl ?_
              refine g_nop ?_
              exact g_iret ⟨_, rfl, hIH209, (JM_n hJH209), (e213.symm.trans ek0_2), m214⟩
            · exfalso; omega
      · refine g_nop ?_
        refine g_iconst (by decide) (fun v235 kv235 => ?_)
        exact g_iret ⟨_, rfl, hIH190, hJH190, (e191.symm.trans ek0_2), m192⟩
set_option maxRecDepth 4000 in
set_option maxHeartbeats 4000000 in
/-- M.lost -/
theorem s_246 (a1 : Int32) (a2 : Int32) (a3 : Int32) (H : mzH) (hI : gI SM H) (hJ : JN H) : gCall 246 [.ref 0, .int a1, .int a2, .int a3] H (gRi (fun v H' => gI SM H' ∧ JN H' ∧ fZ H' 0 2 = fZ H 0 2 ∧ kpM H H')) := by
  obtain ⟨k0_2, ek0_2⟩ : ∃ z, z = fZ H 0 2 := ⟨_, rfl⟩
  have ik0_2 : k0_2.toInt = (fZ H 0 2).toInt := by rw [← ek0_2]
  have bk0_2 : 0 ≤ k0_2.toInt ∧ k0_2.toInt ≤ 900 := by rw [ek0_2]; exact fZ_of hI sm_0 rfl
  have mkfr : kpM H H := kpM_r
  refine gG_call [(0, .ref 0), (1, .int a1), (2, .int a2), (3, .int a3)] ⟨rfl, rfl, rfl, rfl, trivial⟩ ?_
  show gG 6 zB_246 (mzBlk zB_246 0) [(0, .ref 0), (1, .int a1), (2, .int a2), (3, .int a3)] [] H 0 0 _
  refine g_aload_n rfl ?_
  refine g_iconst (by decide) (fun v361 kv361 => ?_)
  refine g_pfi hI sm_0 rfl (gz_any _) (fun H362 eH362 hIH362 => ?_)
  have hJH362 : JN H362 := JN_sF eH362 hJ
  have e363 : k0_2 = fZ H362 0 2 := by rw [eH362, fZ_sF_ne (by decide)]; exact ek0_2
  have m364 : kpM H H362 := kpM_F mkfr eH362 (by omega)
  refine g_iload_n rfl ?_
  refine g_invti rfl rfl rfl (s_206 a1 H362 hIH362 hJH362) (fun v367 H365 r366 => ?_)
  obtain ⟨rfl, bv367⟩ := r366
  refine g_if_eq (fun c368 => ?_) (fun c368 => ?_)
  · refine g_iconst (by decide) (fun v369 kv369 => ?_)
    exact g_iret ⟨_, rfl, hIH362, hJH362, (e363.symm.trans ek0_2), m364⟩
  · refine g_iload_n rfl ?_
    refine g_invti rfl rfl rfl (s_206 a2 H362 hIH362 hJH362) (fun v372 H370 r371 => ?_)
    obtain ⟨rfl, bv372⟩ := r371
    refine g_if_eq (fun c373 => ?_) (fun c373 => ?_)
    · refine g_iconst (by decide) (fun v374 kv374 => ?_)
      exact g_iret ⟨_, rfl, hIH362, hJH362, (e363.symm.trans ek0_2), m364⟩
    · refine g_iload_n rfl ?_
      refine g_if_ge (fun c375 => ?_) (fun c375 => ?_)
      · refine g_aload_n rfl ?_
        refine g_iload_n rfl ?_
        refine g_invvv hIH362 sm_0 rfl rfl rfl rfl (s_200 a1 H362 hIH362 hJH362) (fun H376 r377 => ?_)
        obtain ⟨hIH376, hJH376, w378, m379⟩ := r377
        have e380 : k0_2 = fZ H376 0 2 := e363.trans w378.symm
        have m381 : kpM H H376 := kpM_t m364 m379
        refine g_iload_n rfl ?_
        refine g_istore (l' := [(0, .ref 0), (1, .int a1), (2, .int a2), (3, .int a3), (4, .int a3)]) rfl rfl ?_
        refine g_iconst (by decide) (fun v382 kv382 => ?_)
        refine g_istore (l' := [(0, .ref 0), (1, .int a1), (2, .int a2), (3, .int a3), (4, .int a3), (5, .int v382)]) rfl rfl ?_
        refine g_nop ?_
        have L385 : ∀ (N : Nat) (v383 : Int32) (v384 : Int32), (0 ≤ v383.toInt ∧ v383.toInt ≤ 2147483647) → (0 ≤ v384.toInt ∧ v384.toInt ≤ 40) → (40 - v384.toInt).toNat < N → gG 6 zB_246 (mzBlk zB_246 3) [(0, .ref 0), (1, .int a1), (2, .int a2), (3, .int a3), (4, .int v383), (5, .int v384)] [] H376 0 0 (gRi (fun v H' => gI SM H' ∧ JN H' ∧ fZ H' 0 2 = fZ H 0 2 ∧ kpM H H')) := by
          intro N
          induction N with
          | zero => intro v383 v384 bv383 bv384 hmL385; exact absurd hmL385 (Nat.not_lt_zero _)
          | succ N ihL385 =>
            intro v383 v384 bv383 bv384 hmL385
            refine g_iload rfl ?_
            refine g_bipush (by decide) (fun v386 kv386 => ?_)
            refine g_if2_ge (fun c387 => ?_) (fun c387 => ?_)
            · refine g_bipush (by decide) (fun v388 kv388 => ?_)
              exact g_iret ⟨_, rfl, hIH376, (JM_n hJH376), (e380.symm.trans ek0_2), m381⟩
            · refine g_aload_n rfl ?_
              refine g_iload rfl ?_
              refine g_invvi hIH376 sm_0 rfl rfl rfl rfl (s_201 v384 (by omega) H376 hIH376 hJH376) (fun v391 H389 r390 => ?_)
              obtain ⟨rfl, bv391⟩ := r390
              refine g_if_lt (fun c392 => ?_) (fun c392 => ?_)
              · refine g_iinc (l' := (fun v393 => [(0, .ref 0), (1, .int a1), (2, .int a2), (3, .int a3), (4, .int v383), (5, .int v393)])) rfl rfl (by decide) (by omega) (fun _ => rfl) (fun v393 ev393 => ?_)
                refine g_goto ?_
                exact ihL385 v383 v393 (by have := gz_any v383; omega) (by omega) (by omega)
              · refine g_iload_n rfl ?_
                refine g_aload_n rfl ?_
                refine g_gfr hIH376 sm_0 rfl ?_
                refine g_aload_n rfl ?_
                refine g_iload rfl ?_
                refine g_invvi hIH376 sm_0 rfl rfl rfl rfl (s_185 v384 (by omega) H376 hIH376 hJH376) (fun v396 H394 r395 => ?_)
                obtain ⟨rfl, bv396⟩ := r395
                refine g_iaload hIH376 sm_11 rfl (by omega) (fun v397 ev397 lv397 uv397 => ?_)
                refine g_isub' (fun v398 ov398 => ?_)
                refine g_iload_n rfl ?_
                refine g_if2_ge (fun c399 => ?_) (fun c399 => ?_)
                · refine g_iload rfl ?_
                  refine g_if_ne (fun c400 => ?_) (fun c400 => ?_)
                  · refine g_iinc (l' := (fun v401 => [(0, .ref 0), (1, .int a1), (2, .int a2), (3, .int a3), (4, .int v401), (5, .int v384)])) rfl rfl (by decide) (by have := gz_any v383; omega) (fun _ => rfl) (fun v401 ev401 => ?_)
                    refine g_nop ?_
                    refine g_iinc (l' := (fun v402 => [(0, .ref 0), (1, .int a1), (2, .int a2), (3, .int a3), (4, .int v401), (5, .int v402)])) rfl rfl (by decide) (by omega) (fun _ => rfl) (fun v402 ev402 => ?_)
                    refine g_goto ?_
                    exact ihL385 v401 v402 (by have := gz_any v401; omega) (by omega) (by omega)
                  · refine g_iload rfl ?_
                    exact g_iret ⟨_, rfl, hIH376, (JM_n hJH376), (e380.symm.trans ek0_2), m381⟩
                · refine g_goto ?_
                  refine g_iinc (l' := (fun v403 => [(0, .ref 0), (1, .int a1), (2, .int a2), (3, .int a3), (4, .int v383), (5, .int v403)])) rfl rfl (by decide) (by omega) (fun _ => rfl) (fun v403 ev403 => ?_)
                  refine g_goto ?_
                  exact ihL385 v383 v403 (by have := gz_any v383; omega) (by omega) (by omega)
        exact L385 _ a3 v382 (by have := gz_any a3; omega) (by omega) (Nat.lt_succ_self _)
      · refine g_nop ?_
        refine g_iconst (by decide) (fun v404 kv404 => ?_)
        exact g_iret ⟨_, rfl, hIH362, hJH362, (e363.symm.trans ek0_2), m364⟩
set_option maxRecDepth 4000 in
set_option maxHeartbeats 4000000 in
/-- M.ifSwapped -/
theorem s_247 (a1 : Int32) (a2 : Int32) (a3 : Int32) (H : mzH) (hI : gI SM H) (hJ : JN H) : gCall 247 [.ref 0, .int a1, .int a2, .int a3] H (gRi (fun v H' => gI SM H' ∧ JN H' ∧ fZ H' 0 2 = fZ H 0 2 ∧ kpM H H')) := by
  obtain ⟨k0_2, ek0_2⟩ : ∃ z, z = fZ H 0 2 := ⟨_, rfl⟩
  have ik0_2 : k0_2.toInt = (fZ H 0 2).toInt := by rw [← ek0_2]
  have bk0_2 : 0 ≤ k0_2.toInt ∧ k0_2.toInt ≤ 900 := by rw [ek0_2]; exact fZ_of hI sm_0 rfl
  have mkfr : kpM H H := kpM_r
  refine gG_call [(0, .ref 0), (1, .int a1), (2, .int a2), (3, .int a3)] ⟨rfl, rfl, rfl, rfl, trivial⟩ ?_
  show gG 5 zB_247 (mzBlk zB_247 0) [(0, .ref 0), (1, .int a1), (2, .int a2), (3, .int a3)] [] H 0 0 _
  refine g_aload_n rfl ?_
  refine g_iconst (by decide) (fun v521 kv521 => ?_)
  refine g_pfi hI sm_0 rfl (gz_any _) (fun H522 eH522 hIH522 => ?_)
  have hJH522 : JN H522 := JN_sF eH522 hJ
  have e523 : k0_2 = fZ H522 0 2 := by rw [eH522, fZ_sF_ne (by decide)]; exact ek0_2
  have m524 : kpM H H522 := kpM_F mkfr eH522 (by omega)
  refine g_iload_n rfl ?_
  refine g_if_lt (fun c525 => ?_) (fun c525 => ?_)
  · refine g_iconst (by decide) (fun v526 kv526 => ?_)
    refine g_nop ?_
    refine g_istore (l' := [(0, .ref 0), (1, .int a1), (2, .int a2), (3, .int a3), (4, .int v526)]) rfl rfl ?_
    refine g_iload rfl ?_
    refine g_if_ne (fun c527 => ?_) (fun c527 => ?_)
    · exfalso; omega
    · refine g_sipush (by decide) (fun v528 kv528 => ?_)
      exact g_iret ⟨_, rfl, hIH522, hJH522, (e523.symm.trans ek0_2), m524⟩
  · refine g_iload_n rfl ?_
    refine g_aload_n rfl ?_
    refine g_invvi hIH522 sm_0 rfl rfl rfl rfl (s_180 H522 hIH522 hJH522) (fun v531 H529 r530 => ?_)
    obtain ⟨rfl, bv531, p532⟩ := r530
    refine g_if2_ge (fun c533 => ?_) (fun c533 => ?_)
    · refine g_iconst (by decide) (fun v534 kv534 => ?_)
      refine g_nop ?_
      refine g_istore (l' := [(0, .ref 0), (1, .int a1), (2, .int a2), (3, .int a3), (4, .int v534)]) rfl rfl ?_
      refine g_iload rfl ?_
      refine g_if_ne (fun c535 => ?_) (fun c535 => ?_)
      · exfalso; omega
      · refine g_sipush (by decide) (fun v536 kv536 => ?_)
        exact g_iret ⟨_, rfl, hIH522, hJH522, (e523.symm.trans ek0_2), m524⟩
    · refine g_iload_n rfl ?_
      refine g_if_lt (fun c537 => ?_) (fun c537 => ?_)
      · refine g_iconst (by decide) (fun v538 kv538 => ?_)
        refine g_nop ?_
        refine g_istore (l' := [(0, .ref 0), (1, .int a1), (2, .int a2), (3, .int a3), (4, .int v538)]) rfl rfl ?_
        refine g_iload rfl ?_
        refine g_if_ne (fun c539 => ?_) (fun c539 => ?_)
        · exfalso; omega
        · refine g_sipush (by decide) (fun v540 kv540 => ?_)
          exact g_iret ⟨_, rfl, hIH522, hJH522, (e523.symm.trans ek0_2), m524⟩
      · refine g_iload_n rfl ?_
        refine g_aload_n rfl ?_
        refine g_invvi hIH522 sm_0 rfl rfl rfl rfl (s_180 H522 hIH522 hJH522) (fun v543 H541 r542 => ?_)
        obtain ⟨rfl, bv543, p544⟩ := r542
        refine g_if2_ge (fun c545 => ?_) (fun c545 => ?_)
        · refine g_iconst (by decide) (fun v546 kv546 => ?_)
          refine g_nop ?_
          refine g_istore (l' := [(0, .ref 0), (1, .int a1), (2, .int a2), (3, .int a3), (4, .int v546)]) rfl rfl ?_
          refine g_iload rfl ?_
          refine g_if_ne (fun c547 => ?_) (fun c547 => ?_)
          · exfalso; omega
          · refine g_sipush (by decide) (fun v548 kv548 => ?_)
            exact g_iret ⟨_, rfl, hIH522, hJH522, (e523.symm.trans ek0_2), m524⟩
        · refine g_iload_n rfl ?_
          refine g_iload_n rfl ?_
          refine g_if2_eq (fun c549 => ?_) (fun c549 => ?_)
          · refine g_iconst (by decide) (fun v550 kv550 => ?_)
            refine g_nop ?_
            refine g_istore (l' := [(0, .ref 0), (1, .int a1), (2, .int a2), (3, .int a3), (4, .int v550)]) rfl rfl ?_
            refine g_iload rfl ?_
            refine g_if_ne (fun c551 => ?_) (fun c551 => ?_)
            · exfalso; omega
            · refine g_sipush (by decide) (fun v552 kv552 => ?_)
              exact g_iret ⟨_, rfl, hIH522, hJH522, (e523.symm.trans ek0_2), m524⟩
          · refine g_iload_n rfl ?_
            refine g_iconst (by decide) (fun v553 kv553 => ?_)
            refine g_if2_eq (fun c554 => ?_) (fun c554 => ?_)
            · refine g_iconst (by decide) (fun v555 kv555 => ?_)
              refine g_goto ?_
              refine g_istore (l' := [(0, .ref 0), (1, .int a1), (2, .int a2), (3, .int a3), (4, .int v555)]) rfl rfl ?_
              refine g_iload rfl ?_
              refine g_if_ne (fun c556 => ?_) (fun c556 => ?_)
              · refine g_aload_n rfl ?_
                refine g_invvv hIH522 sm_0 rfl rfl rfl rfl (s_182 H522 hIH522 hJH522) (fun H557 r558 => ?_)
                obtain ⟨hIH557, hJH557, m559, m560, m561, p562⟩ := r558
                have e563 : k0_2 = fZ H557 0 2 := e523.trans (m559 0 2).symm
                have m564 : kpM H H557 := kpM_t m524 m561
                refine g_aload_n rfl ?_
                refine g_gfr hIH557 sm_0 rfl ?_
                refine g_iload_n rfl ?_
                refine g_aload_n rfl ?_
                refine g_iload_n rfl ?_
                refine g_iconst (by decide) (fun v565 kv565 => ?_)
                refine g_invvi hIH557 sm_0 rfl rfl rfl rfl (s_181 a2 (by omega) v565 (by omega) H557 hIH557 hJH557) (fun v568 H566 r567 => ?_)
                obtain ⟨rfl, p569⟩ := r567
                have tv568 : v568 = aZ H557 2 (69 + 5 * a2.toInt + 0).toNat := by rw [p569, kv565]
                refine g_iastore hIH557 sm_18 (by omega) (gz_any _) (fun H570 eH570 hIH570 => ?_)
                have hJH570 : JN H570 := JN_sA (by decide) eH570 hJH557
                have e571 : k0_2 = fZ H570 0 2 := by rw [eH570, fZ_sA]; exact e563
                have m572 : kpM H H570 := kpM_A m564 eH570 (by omega)
                refine g_aload_n rfl ?_
                refine g_gfr hIH570 sm_0 rfl ?_
                refine g_iload_n rfl ?_
                refine g_aload_n rfl ?_
                refine g_iload_n rfl ?_
                refine g_iconst (by decide) (fun v573 kv573 => ?_)
                refine g_invvi hIH570 sm_0 rfl rfl rfl rfl (s_181 a1 (by omega) v573 (by omega) H570 hIH570 hJH570) (fun v576 H574 r575 => ?_)
                obtain ⟨rfl, p577⟩ := r575
                have tv576 : v576 = aZ H570 2 (69 + 5 * a1.toInt + 0).toNat := by rw [p577, kv573]
                refine g_iastore hIH570 sm_18 (by omega) (gz_any _) (fun H578 eH578 hIH578 => ?_)
                have hJH578 : JN H578 := JN_sA (by decide) eH578 hJH570
                have e579 : k0_2 = fZ H578 0 2 := by rw [eH578, fZ_sA]; exact e571
                have m580 : kpM H H578 := kpM_A m572 eH578 (by omega)
                refine g_aload_n rfl ?_
                refine g_sipush (by decide) (fun v581 kv581 => ?_)
                refine g_invvv hIH578 sm_0 rfl rfl rfl rfl (s_198 v581 H578 hIH578 hJH578) (fun H582 r583 => ?_)
                obtain ⟨hIH582, hJH582, w584, w585, w586, w587, m588, m589, m590, p591⟩ := r583
                have e592 : k0_2 = fZ H582 0 2 := e579.trans w584.symm
                have m593 : kpM H H582 := kpM_t m580 m590
                refine g_iload_n rfl ?_
                refine g_iconst (by decide) (fun v594 kv594 => ?_)
                refine g_if2_ne (fun c595 => ?_) (fun c595 => ?_)
                · exfalso; omega
                · refine g_aload_n rfl ?_
                  refine g_invvi hIH582 sm_0 rfl rfl rfl rfl (s_224 H582 hIH582 (JM_n hJH582)) (fun v598 H596 r597 => ?_)
                  obtain rfl := r597
                  refine g_goto ?_
                  exact g_iret ⟨_, rfl, hIH582, (JM_n hJH582), (e592.symm.trans ek0_2), m593⟩
              · exfalso; omega
            · refine g_iload_n rfl ?_
              refine g_invti rfl rfl rfl (s_205 a3 H522 hIH522 hJH522) (fun v601 H599 r600 => ?_)
              obtain ⟨rfl, bv601, p602⟩ := r600
              refine g_if_eq (fun c603 => ?_) (fun c603 => ?_)
              · refine g_iconst (by decide) (fun v604 kv604 => ?_)
                refine g_nop ?_
                refine g_istore (l' := [(0, .ref 0), (1, .int a1), (2, .int a2), (3, .int a3), (4, .int v604)]) rfl rfl ?_
                refine g_iload rfl ?_
                refine g_if_ne (fun c605 => ?_) (fun c605 => ?_)
                · exfalso; omega
                · refine g_sipush (by decide) (fun v606 kv606 => ?_)
                  exact g_iret ⟨_, rfl, hIH522, hJH522, (e523.symm.trans ek0_2), m524⟩
              · refine g_nop ?_
                refine g_iconst (by decide) (fun v607 kv607 => ?_)
                refine g_goto ?_
                refine g_istore (l' := [(0, .ref 0), (1, .int a1), (2, .int a2), (3, .int a3), (4, .int v607)]) rfl rfl ?_
                refine g_iload rfl ?_
                refine g_if_ne (fun c608 => ?_) (fun c608 => ?_)
                · refine g_aload_n rfl ?_
                  refine g_invvv hIH522 sm_0 rfl rfl rfl rfl (s_182 H522 hIH522 hJH522) (fun H609 r610 => ?_)
                  obtain ⟨hIH609, hJH609, m611, m612, m613, p614⟩ := r610
                  have e615 : k0_2 = fZ H609 0 2 := e523.trans (m611 0 2).symm
                  have m616 : kpM H H609 := kpM_t m524 m613
                  refine g_aload_n rfl ?_
                  refine g_gfr hIH609 sm_0 rfl ?_
                  refine g_iload_n rfl ?_
                  refine g_aload_n rfl ?_
                  refine g_iload_n rfl ?_
                  refine g_iconst (by decide) (fun v617 kv617 => ?_)
                  refine g_invvi hIH609 sm_0 rfl rfl rfl rfl (s_181 a2 (by omega) v617 (by omega) H609 hIH609 hJH609) (fun v620 H618 r619 => ?_)
                  obtain ⟨rfl, p621⟩ := r619
                  have tv620 : v620 = aZ H609 2 (69 + 5 * a2.toInt + 0).toNat := by rw [p621, kv617]
                  refine g_iastore hIH609 sm_18 (by omega) (gz_any _) (fun H622 eH622 hIH622 => ?_)
                  have hJH622 : JN H622 := JN_sA (by decide) eH622 hJH609
                  have e623 : k0_2 = fZ H622 0 2 := by rw [eH622, fZ_sA]; exact e615
                  have m624 : kpM H H622 := kpM_A m616 eH622 (by omega)
                  refine g_aload_n rfl ?_
                  refine g_gfr hIH622 sm_0 rfl ?_
                  refine g_iload_n rfl ?_
                  refine g_aload_n rfl ?_
                  refine g_iload_n rfl ?_
                  refine g_iconst (by decide) (fun v625 kv625 => ?_)
                  refine g_invvi hIH622 sm_0 rfl rfl rfl rfl (s_181 a1 (by omega) v625 (by omega) H622 hIH622 hJH622) (fun v628 H626 r627 => ?_)
                  obtain ⟨rfl, p629⟩ := r627
                  have tv628 : v628 = aZ H622 2 (69 + 5 * a1.toInt + 0).toNat := by rw [p629, kv625]
                  refine g_iastore hIH622 sm_18 (by omega) (gz_any _) (fun H630 eH630 hIH630 => ?_)
                  have hJH630 : JN H630 := JN_sA (by decide) eH630 hJH622
                  have e631 : k0_2 = fZ H630 0 2 := by rw [eH630, fZ_sA]; exact e623
                  have m632 : kpM H H630 := kpM_A m624 eH630 (by omega)
                  refine g_aload_n rfl ?_
                  refine g_sipush (by decide) (fun v633 kv633 => ?_)
                  refine g_invvv hIH630 sm_0 rfl rfl rfl rfl (s_198 v633 H630 hIH630 hJH630) (fun H634 r635 => ?_)
                  obtain ⟨hIH634, hJH634, w636, w637, w638, w639, m640, m641, m642, p643⟩ := r635
                  have e644 : k0_2 = fZ H634 0 2 := e631.trans w636.symm
                  have m645 : kpM H H634 := kpM_t m632 m642
                  refine g_iload_n rfl ?_
                  refine g_iconst (by decide) (fun v646 kv646 => ?_)
                  refine g_if2_ne (fun c647 => ?_) (fun c647 => ?_)
                  · refine g_aload_n rfl ?_
                    refine g_iload_n rfl ?_
                    refine g_invvi hIH634 sm_0 rfl rfl rfl rfl (s_201 a3 (by omega) H634 hIH634 hJH634) (fun v650 H648 r649 => ?_)
                    obtain ⟨rfl, bv650⟩ := r649
                    refine g_nop ?_
                    exact g_iret ⟨_, rfl, hIH634, (JM_n hJH634), (e644.symm.trans ek0_2), m645⟩
                  · exfalso; omega
                · exfalso; omega
set_option maxRecDepth 4000 in
set_option maxHeartbeats 4000000 in
/-- M.manyAt -/
theorem s_248 (a1 : Int32) (H : mzH) (hI : gI SM H) (hJ : JM H) : gCall 248 [.ref 0, .int a1] H (gRi (fun v H' => H = H')) := by
  refine gG_call [(0, .ref 0), (1, .int a1)] ⟨rfl, rfl, trivial⟩ ?_
  show gG 4 zB_248 (mzBlk zB_248 0) [(0, .ref 0), (1, .int a1)] [] H 0 0 _
  refine g_iconst (by decide) (fun v459 kv459 => ?_)
  refine g_istore_n (l' := [(0, .ref 0), (1, .int a1), (2, .int v459)]) rfl rfl ?_
  refine g_iconst (by decide) (fun v460 kv460 => ?_)
  refine g_istore_n (l' := [(0, .ref 0), (1, .int a1), (2, .int v459), (3, .int v460)]) rfl rfl ?_
  refine g_nop ?_
  have L463 : ∀ (N : Nat) (v461 : Int32) (v462 : Int32), (0 ≤ v462.toInt ∧ v462.toInt ≤ 40) → (40 - v462.toInt).toNat < N → gG 4 zB_248 (mzBlk zB_248 1) [(0, .ref 0), (1, .int a1), (2, .int v461), (3, .int v462)] [] H 0 0 (gRi (fun v H' => H = H')) := by
    intro N
    induction N with
    | zero => intro v461 v462 bv462 hmL463; exact absurd hmL463 (Nat.not_lt_zero _)
    | succ N ihL463 =>
      intro v461 v462 bv462 hmL463
      refine g_iload_n rfl ?_
      refine g_bipush (by decide) (fun v464 kv464 => ?_)
      refine g_if2_ge (fun c465 => ?_) (fun c465 => ?_)
      · refine g_iload_n rfl ?_
        exact g_iret ⟨_, rfl, rfl⟩
      · refine g_iload_n rfl ?_
        refine g_aload_n rfl ?_
        refine g_iload_n rfl ?_
        refine g_invvi hI sm_0 rfl rfl rfl rfl (s_201 v462 (by omega) H hI hJ) (fun v468 H466 r467 => ?_)
        obtain ⟨rfl, bv468⟩ := r467
        refine g_iload_n rfl ?_
        refine g_if2_ne (fun c469 => ?_) (fun c469 => ?_)
        · refine g_iconst (by decide) (fun v470 kv470 => ?_)
          refine g_nop ?_
          refine g_iadd (by have := gz_any v461; omega) (fun v471 ev471 => ?_)
          refine g_istore_n (l' := [(0, .ref 0), (1, .int a1), (2, .int v471), (3, .int v462)]) rfl rfl ?_
          refine g_iinc (l' := (fun v472 => [(0, .ref 0), (1, .int a1), (2, .int v471), (3, .int v472)])) rfl rfl (by decide) (by omega) (fun _ => rfl) (fun v472 ev472 => ?_)
          refine g_goto ?_
          exact ihL463 v471 v472 (by omega) (by omega)
        · refine g_iconst (by decide) (fun v473 kv473 => ?_)
          refine g_goto ?_
          refine g_iadd' (fun v474 ov474 => ?_)
          refine g_istore_n (l' := [(0, .ref 0), (1, .int a1), (2, .int v474), (3, .int v462)]) rfl rfl ?_
          refine g_iinc (l' := (fun v475 => [(0, .ref 0), (1, .int a1), (2, .int v474), (3, .int v475)])) rfl rfl (by decide) (by omega) (fun _ => rfl) (fun v475 ev475 => ?_)
          refine g_goto ?_
          exact ihL463 v474 v475 (by omega) (by omega)
  exact L463 _ v459 v460 (by omega) (Nat.lt_succ_self _)
set_option maxRecDepth 4000 in
set_option maxHeartbeats 4000000 in
/-- M.busy -/
theorem s_249 (a1 : Int32) (a2 : Int32) (H : mzH) (hI : gI SM H) (hJ : JN H) : gCall 249 [.ref 0, .int a1, .int a2] H (gRi (fun v H' => gI SM H' ∧ JN H' ∧ fZ H' 0 2 = fZ H 0 2 ∧ kpM H H')) := by
  obtain ⟨k0_2, ek0_2⟩ : ∃ z, z = fZ H 0 2 := ⟨_, rfl⟩
  have ik0_2 : k0_2.toInt = (fZ H 0 2).toInt := by rw [← ek0_2]
  have bk0_2 : 0 ≤ k0_2.toInt ∧ k0_2.toInt ≤ 900 := by rw [ek0_2]; exact fZ_of hI sm_0 rfl
  have mkfr : kpM H H := kpM_r
  refine gG_call [(0, .ref 0), (1, .int a1), (2, .int a2)] ⟨rfl, rfl, rfl, trivial⟩ ?_
  show gG 7 zB_249 (mzBlk zB_249 0) [(0, .ref 0), (1, .int a1), (2, .int a2)] [] H 0 0 _
  refine g_aload_n rfl ?_
  refine g_iconst (by decide) (fun v799 kv799 => ?_)
  refine g_pfi hI sm_0 rfl (gz_any _) (fun H800 eH800 hIH800 => ?_)
  have hJH800 : JN H800 := JN_sF eH800 hJ
  have e801 : k0_2 = fZ H800 0 2 := by rw [eH800, fZ_sF_ne (by decide)]; exact ek0_2
  have m802 : kpM H H800 := kpM_F mkfr eH800 (by omega)
  refine g_aload_n rfl ?_
  refine g_iload_n rfl ?_
  refine g_invvi hIH800 sm_0 rfl rfl rfl rfl (s_210 a1 H800 hIH800 hJH800) (fun v805 H803 r804 => ?_)
  obtain ⟨rfl, bv805, p806⟩ := r804
  refine g_if_ne (fun c807 => ?_) (fun c807 => ?_)
  · refine g_iload_n rfl ?_
    refine g_if_lt (fun c808 => ?_) (fun c808 => ?_)
    · refine g_iconst (by decide) (fun v809 kv809 => ?_)
      exact g_iret ⟨_, rfl, hIH800, hJH800, (e801.symm.trans ek0_2), m802⟩
    · refine g_iload_n rfl ?_
      refine g_iconst (by decide) (fun v810 kv810 => ?_)
      refine g_if2_le (fun c811 => ?_) (fun c811 => ?_)
      · refine g_aload_n rfl ?_
        refine g_invvv hIH800 sm_0 rfl rfl rfl rfl (s_182 H800 hIH800 hJH800) (fun H812 r813 => ?_)
        obtain ⟨hIH812, hJH812, m814, m815, m816, p817⟩ := r813
        have e818 : k0_2 = fZ H812 0 2 := e801.trans (m814 0 2).symm
        have m819 : kpM H H812 := kpM_t m802 m816
        refine g_aload_n rfl ?_
        refine g_invvv hIH812 sm_0 rfl rfl rfl rfl (s_184 H812 hIH812 hJH812) (fun H820 r821 => ?_)
        obtain ⟨hIH820, hJH820, w822, w823, w824, w825, m826, m827, m828, p829⟩ := r821
        have e830 : k0_2 = fZ H820 0 2 := e818.trans w822.symm
        have m831 : kpM H H820 := kpM_t m819 m828
        refine g_iconst (by decide) (fun v832 kv832 => ?_)
        refine g_istore_n (l' := [(0, .ref 0), (1, .int a1), (2, .int a2), (3, .int v832)]) rfl rfl ?_
        refine g_bipush (by decide) (fun v833 kv833 => ?_)
        refine g_istore (l' := [(0, .ref 0), (1, .int a1), (2, .int a2), (3, .int v832), (4, .int v833)]) rfl rfl ?_
        refine g_iconst (by decide) (fun v834 kv834 => ?_)
        refine g_istore (l' := [(0, .ref 0), (1, .int a1), (2, .int a2), (3, .int v832), (4, .int v833), (5, .int v834)]) rfl rfl ?_
        refine g_nop ?_
        have L841 : ∀ (N : Nat) (v835 : Int32) (v836 : Int32) (v837 : Int32) (H838 : mzH), gI SM H838 → JM H838 → k0_2 = fZ H838 0 2 → kpM H H838 → (-1 ≤ v835.toInt ∧ v835.toInt ≤ 2147483647) → (0 ≤ v837.toInt ∧ v837.toInt ≤ 60) → (60 - v837.toInt).toNat < N → gG 7 zB_249 (mzBlk zB_249 4) [(0, .ref 0), (1, .int a1), (2, .int a2), (3, .int v835), (4, .int v836), (5, .int v837)] [] H838 0 0 (gRi (fun v H' => gI SM H' ∧ JN H' ∧ fZ H' 0 2 = fZ H 0 2 ∧ kpM H H')) := by
          intro N
          induction N with
          | zero => intro v835 v836 v837 H838 hIH838 hJH838 e839 m840 bv835 bv837 hmL841; exact absurd hmL841 (Nat.not_lt_zero _)
          | succ N ihL841 =>
            intro v835 v836 v837 H838 hIH838 hJH838 e839 m840 bv835 bv837 hmL841
            refine g_iload rfl ?_
            refine g_aload_n rfl ?_
            refine g_gfi hIH838 sm_0 rfl (fun v842 ev842 lv842 uv842 => ?_)
            refine g_if2_ge (fun c843 => ?_) (fun c843 => ?_)
            · refine g_iload_n rfl ?_
              refine g_iconst (by decide) (fun v844 kv844 => ?_)
              refine g_if2_ne (fun c845 => ?_) (fun c845 => ?_)
              · refine g_iload_n rfl ?_
                refine g_iconst (by decide) (fun v846 kv846 => ?_)
                refine g_if2_ne (fun c847 => ?_) (fun c847 => ?_)
                · refine g_iload_n rfl ?_
                  refine g_nop ?_
                  exact g_iret ⟨_, rfl, hIH838, (JM_n hJH838), (e839.symm.trans ek0_2), m840⟩
                · refine g_iconst (by decide) (fun v848 kv848 => ?_)
                  refine g_goto ?_
                  exact g_iret ⟨_, rfl, hIH838, (JM_n hJH838), (e839.symm.trans ek0_2), m840⟩
              · refine g_iload rfl ?_
                refine g_goto ?_
                exact g_iret ⟨_, rfl, hIH838, (JM_n hJH838), (e839.symm.trans ek0_2), m840⟩
            · refine g_aload_n rfl ?_
              refine g_aload_n rfl ?_
              refine g_gfr hIH838 sm_0 rfl ?_
              refine g_iload rfl ?_
              refine g_iaload hIH838 sm_19 rfl (by omega) (fun v849 ev849 lv849 uv849 => ?_)
              refine g_invvv hIH838 sm_0 rfl rfl rfl rfl (s_192 v849 (by omega) H838 hIH838 hJH838) (fun H850 r851 => ?_)
              obtain ⟨hIH850, hJH850, m852, m853, m854, m855, m856⟩ := r851
              have e857 : k0_2 = fZ H850 0 2 := e839.trans (m852 0 2).symm
              have m858 : kpM H H850 := kpM_t m840 m856
              refine g_aload_n rfl ?_
              refine g_iload_n rfl ?_
              refine g_invvi hIH850 sm_0 rfl rfl rfl rfl (s_248 a1 H850 hIH850 hJH850) (fun v861 H859 r860 => ?_)
              obtain rfl := r860
              refine g_istore (l' := [(0, .ref 0), (1, .int a1), (2, .int a2), (3, .int v835), (4, .int v836), (5, .int v837), (6, .int v861)]) rfl rfl ?_
              refine g_iload rfl ?_
              refine g_iload_n rfl ?_
              refine g_if2_gt (fun c862 => ?_) (fun c862 => ?_)
              · refine g_iload rfl ?_
                refine g_istore_n (l' := [(0, .ref 0), (1, .int a1), (2, .int a2), (3, .int v861), (4, .int v836), (5, .int v837), (6, .int v861)]) rfl rfl ?_
                refine g_aload_n rfl ?_
                refine g_gfr hIH850 sm_0 rfl ?_
                refine g_aload_n rfl ?_
                refine g_gfr hIH850 sm_0 rfl ?_
                refine g_iload rfl ?_
                refine g_iaload hIH850 sm_19 rfl (by omega) (fun v863 ev863 lv863 uv863 => ?_)
                refine g_iaload hIH850 sm_18 rfl (by omega) (fun v864 ev864 lv864 uv864 => ?_)
                refine g_istore (l' := [(0, .ref 0), (1, .int a1), (2, .int a2), (3, .int v861), (4, .int v864), (5, .int v837), (6, .int v861)]) rfl rfl ?_
                refine g_nop ?_
                refine g_iinc (l' := (fun v865 => [(0, .ref 0), (1, .int a1), (2, .int a2), (3, .int v861), (4, .int v864), (5, .int v865), (6, .int v861)])) rfl rfl (by decide) (by omega) (fun _ => rfl) (fun v865 ev865 => ?_)
                refine g_goto ?_
                refine gG_pick [0, 1, 2, 3, 4, 5] (l' := [(0, .ref 0), (1, .int a1), (2, .int a2), (3, .int v861), (4, .int v864), (5, .int v865)]) rfl ?_
                exact ihL841 v861 v864 v865 H850 hIH850 hJH850 e857 m858 (by have := gz_any v861; omega) (by omega) (by omega)
              · refine g_goto ?_
                refine g_iinc (l' := (fun v866 => [(0, .ref 0), (1, .int a1), (2, .int a2), (3, .int v835), (4, .int v836), (5, .int v866), (6, .int v861)])) rfl rfl (by decide) (by omega) (fun _ => rfl) (fun v866 ev866 => ?_)
                refine g_goto ?_
                refine gG_pick [0, 1, 2, 3, 4, 5] (l' := [(0, .ref 0), (1, .int a1), (2, .int a2), (3, .int v835), (4, .int v836), (5, .int v866)]) rfl ?_
                exact ihL841 v835 v836 v866 H850 hIH850 hJH850 e857 m858 (by have := gz_any v835; omega) (by omega) (by omega)
        exact L841 _ v832 v833 v834 H820 hIH820 hJH820 e830 m831 (by have := gz_any v832; omega) (by omega) (Nat.lt_succ_self _)
      · refine g_nop ?_
        refine g_iconst (by decide) (fun v867 kv867 => ?_)
        exact g_iret ⟨_, rfl, hIH800, hJH800, (e801.symm.trans ek0_2), m802⟩
  · refine g_iload_n rfl ?_
    refine g_bipush (by decide) (fun v868 kv868 => ?_)
    refine g_if2_eq (fun c869 => ?_) (fun c869 => ?_)
    · refine g_iload_n rfl ?_
      refine g_if_lt (fun c870 => ?_) (fun c870 => ?_)
      · refine g_iconst (by decide) (fun v871 kv871 => ?_)
        exact g_iret ⟨_, rfl, hIH800, hJH800, (e801.symm.trans ek0_2), m802⟩
      · refine g_iload_n rfl ?_
        refine g_iconst (by decide) (fun v872 kv872 => ?_)
        refine g_if2_le (fun c873 => ?_) (fun c873 => ?_)
        · refine g_aload_n rfl ?_
          refine g_invvv hIH800 sm_0 rfl rfl rfl rfl (s_182 H800 hIH800 hJH800) (fun H874 r875 => ?_)
          obtain ⟨hIH874, hJH874, m876, m877, m878, p879⟩ := r875
          have e880 : k0_2 = fZ H874 0 2 := e801.trans (m876 0 2).symm
          have m881 : kpM H H874 := kpM_t m802 m878
          refine g_aload_n rfl ?_
          refine g_invvv hIH874 sm_0 rfl rfl rfl rfl (s_184 H874 hIH874 hJH874) (fun H882 r883 => ?_)
          obtain ⟨hIH882, hJH882, w884, w885, w886, w887, m888, m889, m890, p891⟩ := r883
          have e892 : k0_2 = fZ H882 0 2 := e880.trans w884.symm
          have m893 : kpM H H882 := kpM_t m881 m890
          refine g_iconst (by decide) (fun v894 kv894 => ?_)
          refine g_istore_n (l' := [(0, .ref 0), (1, .int a1), (2, .int a2), (3, .int v894)]) rfl rfl ?_
          refine g_bipush (by decide) (fun v895 kv895 => ?_)
          refine g_istore (l' := [(0, .ref 0), (1, .int a1), (2, .int a2), (3, .int v894), (4, .int v895)]) rfl rfl ?_
          refine g_iconst (by decide) (fun v896 kv896 => ?_)
          refine g_istore (l' := [(0, .ref 0), (1, .int a1), (2, .int a2), (3, .int v894), (4, .int v895), (5, .int v896)]) rfl rfl ?_
          refine g_nop ?_
          have L903 : ∀ (N : Nat) (v897 : Int32) (v898 : Int32) (v899 : Int32) (H900 : mzH), gI SM H900 → JM H900 → k0_2 = fZ H900 0 2 → kpM H H900 → (-1 ≤ v897.toInt ∧ v897.toInt ≤ 2147483647) → (0 ≤ v899.toInt ∧ v899.toInt ≤ 60) → (60 - v899.toInt).toNat < N → gG 7 zB_249 (mzBlk zB_249 4) [(0, .ref 0), (1, .int a1), (2, .int a2), (3, .int v897), (4, .int v898), (5, .int v899)] [] H900 0 0 (gRi (fun v H' => gI SM H' ∧ JN H' ∧ fZ H' 0 2 = fZ H 0 2 ∧ kpM H H')) := by
            intro N
            induction N with
            | zero => intro v897 v898 v899 H900 hIH900 hJH900 e901 m902 bv897 bv899 hmL903; exact absurd hmL903 (Nat.not_lt_zero _)
            | succ N ihL903 =>
              intro v897 v898 v899 H900 hIH900 hJH900 e901 m902 bv897 bv899 hmL903
              refine g_iload rfl ?_
              refine g_aload_n rfl ?_
              refine g_gfi hIH900 sm_0 rfl (fun v904 ev904 lv904 uv904 => ?_)
              refine g_if2_ge (fun c905 => ?_) (fun c905 => ?_)
              · refine g_iload_n rfl ?_
                refine g_iconst (by decide) (fun v906 kv906 => ?_)
                refine g_if2_ne (fun c907 => ?_) (fun c907 => ?_)
                · refine g_iload_n rfl ?_
                  refine g_iconst (by decide) (fun v908 kv908 => ?_)
                  refine g_if2_ne (fun c909 => ?_) (fun c909 => ?_)
                  · refine g_iload_n rfl ?_
                    refine g_nop ?_
                    exact g_iret ⟨_, rfl, hIH900, (JM_n hJH900), (e901.symm.trans ek0_2), m902⟩
                  · refine g_iconst (by decide) (fun v910 kv910 => ?_)
                    refine g_goto ?_
                    exact g_iret ⟨_, rfl, hIH900, (JM_n hJH900), (e901.symm.trans ek0_2), m902⟩
                · refine g_iload rfl ?_
                  refine g_goto ?_
                  exact g_iret ⟨_, rfl, hIH900, (JM_n hJH900), (e901.symm.trans ek0_2), m902⟩
              · refine g_aload_n rfl ?_
                refine g_aload_n rfl ?_
                refine g_gfr hIH900 sm_0 rfl ?_
                refine g_iload rfl ?_
                refine g_iaload hIH900 sm_19 rfl (by omega) (fun v911 ev911 lv911 uv911 => ?_)
                refine g_invvv hIH900 sm_0 rfl rfl rfl rfl (s_192 v911 (by omega) H900 hIH900 hJH900) (fun H912 r913 => ?_)
                obtain ⟨hIH912, hJH912, m914, m915, m916, m917, m918⟩ := r913
                have e919 : k0_2 = fZ H912 0 2 := e901.trans (m914 0 2).symm
                have m920 : kpM H H912 := kpM_t m902 m918
                refine g_aload_n rfl ?_
                refine g_iload_n rfl ?_
                refine g_invvi hIH912 sm_0 rfl rfl rfl rfl (s_248 a1 H912 hIH912 hJH912) (fun v923 H921 r922 => ?_)
                obtain rfl := r922
                refine g_istore (l' := [(0, .ref 0), (1, .int a1), (2, .int a2), (3, .int v897), (4, .int v898), (5, .int v899), (6, .int v923)]) rfl rfl ?_
                refine g_iload rfl ?_
                refine g_iload_n rfl ?_
                refine g_if2_gt (fun c924 => ?_) (fun c924 => ?_)
                · refine g_iload rfl ?_
                  refine g_istore_n (l' := [(0, .ref 0), (1, .int a1), (2, .int a2), (3, .int v923), (4, .int v898), (5, .int v899), (6, .int v923)]) rfl rfl ?_
                  refine g_aload_n rfl ?_
                  refine g_gfr hIH912 sm_0 rfl ?_
                  refine g_aload_n rfl ?_
                  refine g_gfr hIH912 sm_0 rfl ?_
                  refine g_iload rfl ?_
                  refine g_iaload hIH912 sm_19 rfl (by omega) (fun v925 ev925 lv925 uv925 => ?_)
                  refine g_iaload hIH912 sm_18 rfl (by omega) (fun v926 ev926 lv926 uv926 => ?_)
                  refine g_istore (l' := [(0, .ref 0), (1, .int a1), (2, .int a2), (3, .int v923), (4, .int v926), (5, .int v899), (6, .int v923)]) rfl rfl ?_
                  refine g_nop ?_
                  refine g_iinc (l' := (fun v927 => [(0, .ref 0), (1, .int a1), (2, .int a2), (3, .int v923), (4, .int v926), (5, .int v927), (6, .int v923)])) rfl rfl (by decide) (by omega) (fun _ => rfl) (fun v927 ev927 => ?_)
                  refine g_goto ?_
                  refine gG_pick [0, 1, 2, 3, 4, 5] (l' := [(0, .ref 0), (1, .int a1), (2, .int a2), (3, .int v923), (4, .int v926), (5, .int v927)]) rfl ?_
                  exact ihL903 v923 v926 v927 H912 hIH912 hJH912 e919 m920 (by have := gz_any v923; omega) (by omega) (by omega)
                · refine g_goto ?_
                  refine g_iinc (l' := (fun v928 => [(0, .ref 0), (1, .int a1), (2, .int a2), (3, .int v897), (4, .int v898), (5, .int v928), (6, .int v923)])) rfl rfl (by decide) (by omega) (fun _ => rfl) (fun v928 ev928 => ?_)
                  refine g_goto ?_
                  refine gG_pick [0, 1, 2, 3, 4, 5] (l' := [(0, .ref 0), (1, .int a1), (2, .int a2), (3, .int v897), (4, .int v898), (5, .int v928)]) rfl ?_
                  exact ihL903 v897 v898 v928 H912 hIH912 hJH912 e919 m920 (by have := gz_any v897; omega) (by omega) (by omega)
          exact L903 _ v894 v895 v896 H882 hIH882 hJH882 e892 m893 (by have := gz_any v894; omega) (by omega) (Nat.lt_succ_self _)
        · refine g_nop ?_
          refine g_iconst (by decide) (fun v929 kv929 => ?_)
          exact g_iret ⟨_, rfl, hIH800, hJH800, (e801.symm.trans ek0_2), m802⟩
    · refine g_iload_n rfl ?_
      refine g_bipush (by decide) (fun v930 kv930 => ?_)
      refine g_if2_ne (fun c931 => ?_) (fun c931 => ?_)
      · refine g_iconst (by decide) (fun v932 kv932 => ?_)
        exact g_iret ⟨_, rfl, hIH800, hJH800, (e801.symm.trans ek0_2), m802⟩
      · refine g_nop ?_
        refine g_iload_n rfl ?_
        refine g_if_lt (fun c933 => ?_) (fun c933 => ?_)
        · refine g_iconst (by decide) (fun v934 kv934 => ?_)
          exact g_iret ⟨_, rfl, hIH800, hJH800, (e801.symm.trans ek0_2), m802⟩
        · refine g_iload_n rfl ?_
          refine g_iconst (by decide) (fun v935 kv935 => ?_)
          refine g_if2_le (fun c936 => ?_) (fun c936 => ?_)
          · refine g_aload_n rfl ?_
            refine g_invvv hIH800 sm_0 rfl rfl rfl rfl (s_182 H800 hIH800 hJH800) (fun H937 r938 => ?_)
            obtain ⟨hIH937, hJH937, m939, m940, m941, p942⟩ := r938
            have e943 : k0_2 = fZ H937 0 2 := e801.trans (m939 0 2).symm
            have m944 : kpM H H937 := kpM_t m802 m941
            refine g_aload_n rfl ?_
            refine g_invvv hIH937 sm_0 rfl rfl rfl rfl (s_184 H937 hIH937 hJH937) (fun H945 r946 => ?_)
            obtain ⟨hIH945, hJH945, w947, w948, w949, w950, m951, m952, m953, p954⟩ := r946
            have e955 : k0_2 = fZ H945 0 2 := e943.trans w947.symm
            have m956 : kpM H H945 := kpM_t m944 m953
            refine g_iconst (by decide) (fun v957 kv957 => ?_)
            refine g_istore_n (l' := [(0, .ref 0), (1, .int a1), (2, .int a2), (3, .int v957)]) rfl rfl ?_
            refine g_bipush (by decide) (fun v958 kv958 => ?_)
            refine g_istore (l' := [(0, .ref 0), (1, .int a1), (2, .int a2), (3, .int v957), (4, .int v958)]) rfl rfl ?_
            refine g_iconst (by decide) (fun v959 kv959 => ?_)
            refine g_istore (l' := [(0, .ref 0), (1, .int a1), (2, .int a2), (3, .int v957), (4, .int v958), (5, .int v959)]) rfl rfl ?_
            refine g_nop ?_
            have L966 : ∀ (N : Nat) (v960 : Int32) (v961 : Int32) (v962 : Int32) (H963 : mzH), gI SM H963 → JM H963 → k0_2 = fZ H963 0 2 → kpM H H963 → (-1 ≤ v960.toInt ∧ v960.toInt ≤ 2147483647) → (0 ≤ v962.toInt ∧ v962.toInt ≤ 60) → (60 - v962.toInt).toNat < N → gG 7 zB_249 (mzBlk zB_249 4) [(0, .ref 0), (1, .int a1), (2, .int a2), (3, .int v960), (4, .int v961), (5, .int v962)] [] H963 0 0 (gRi (fun v H' => gI SM H' ∧ JN H' ∧ fZ H' 0 2 = fZ H 0 2 ∧ kpM H H')) := by
              intro N
              induction N with
              | zero => intro v960 v961 v962 H963 hIH963 hJH963 e964 m965 bv960 bv962 hmL966; exact absurd hmL966 (Nat.not_lt_zero _)
              | succ N ihL966 =>
                intro v960 v961 v962 H963 hIH963 hJH963 e964 m965 bv960 bv962 hmL966
                refine g_iload rfl ?_
                refine g_aload_n rfl ?_
                refine g_gfi hIH963 sm_0 rfl (fun v967 ev967 lv967 uv967 => ?_)
                refine g_if2_ge (fun c968 => ?_) (fun c968 => ?_)
                · refine g_iload_n rfl ?_
                  refine g_iconst (by decide) (fun v969 kv969 => ?_)
                  refine g_if2_ne (fun c970 => ?_) (fun c970 => ?_)
                  · refine g_iload_n rfl ?_
                    refine g_iconst (by decide) (fun v971 kv971 => ?_)
                    refine g_if2_ne (fun c972 => ?_) (fun c972 => ?_)
                    · refine g_iload_n rfl ?_
                      refine g_nop ?_
                      exact g_iret ⟨_, rfl, hIH963, (JM_n hJH963), (e964.symm.trans ek0_2), m965⟩
                    · refine g_iconst (by decide) (fun v973 kv973 => ?_)
                      refine g_goto ?_
                      exact g_iret ⟨_, rfl, hIH963, (JM_n hJH963), (e964.symm.trans ek0_2), m965⟩
                  · refine g_iload rfl ?_
                    refine g_goto ?_
                    exact g_iret ⟨_, rfl, hIH963, (JM_n hJH963), (e964.symm.trans ek0_2), m965⟩
                · refine g_aload_n rfl ?_
                  refine g_aload_n rfl ?_
                  refine g_gfr hIH963 sm_0 rfl ?_
                  refine g_iload rfl ?_
                  refine g_iaload hIH963 sm_19 rfl (by omega) (fun v974 ev974 lv974 uv974 => ?_)
                  refine g_invvv hIH963 sm_0 rfl rfl rfl rfl (s_192 v974 (by omega) H963 hIH963 hJH963) (fun H975 r976 => ?_)
                  obtain ⟨hIH975, hJH975, m977, m978, m979, m980, m981⟩ := r976
                  have e982 : k0_2 = fZ H975 0 2 := e964.trans (m977 0 2).symm
                  have m983 : kpM H H975 := kpM_t m965 m981
                  refine g_aload_n rfl ?_
                  refine g_iload_n rfl ?_
                  refine g_invvi hIH975 sm_0 rfl rfl rfl rfl (s_248 a1 H975 hIH975 hJH975) (fun v986 H984 r985 => ?_)
                  obtain rfl := r985
                  refine g_istore (l' := [(0, .ref 0), (1, .int a1), (2, .int a2), (3, .int v960), (4, .int v961), (5, .int v962), (6, .int v986)]) rfl rfl ?_
                  refine g_iload rfl ?_
                  refine g_iload_n rfl ?_
                  refine g_if2_gt (fun c987 => ?_) (fun c987 => ?_)
                  · refine g_iload rfl ?_
                    refine g_istore_n (l' := [(0, .ref 0), (1, .int a1), (2, .int a2), (3, .int v986), (4, .int v961), (5, .int v962), (6, .int v986)]) rfl rfl ?_
                    refine g_aload_n rfl ?_
                    refine g_gfr hIH975 sm_0 rfl ?_
                    refine g_aload_n rfl ?_
                    refine g_gfr hIH975 sm_0 rfl ?_
                    refine g_iload rfl ?_
                    refine g_iaload hIH975 sm_19 rfl (by omega) (fun v988 ev988 lv988 uv988 => ?_)
                    refine g_iaload hIH975 sm_18 rfl (by omega) (fun v989 ev989 lv989 uv989 => ?_)
                    refine g_istore (l' := [(0, .ref 0), (1, .int a1), (2, .int a2), (3, .int v986), (4, .int v989), (5, .int v962), (6, .int v986)]) rfl rfl ?_
                    refine g_nop ?_
                    refine g_iinc (l' := (fun v990 => [(0, .ref 0), (1, .int a1), (2, .int a2), (3, .int v986), (4, .int v989), (5, .int v990), (6, .int v986)])) rfl rfl (by decide) (by omega) (fun _ => rfl) (fun v990 ev990 => ?_)
                    refine g_goto ?_
                    refine gG_pick [0, 1, 2, 3, 4, 5] (l' := [(0, .ref 0), (1, .int a1), (2, .int a2), (3, .int v986), (4, .int v989), (5, .int v990)]) rfl ?_
                    exact ihL966 v986 v989 v990 H975 hIH975 hJH975 e982 m983 (by have := gz_any v986; omega) (by omega) (by omega)
                  · refine g_goto ?_
                    refine g_iinc (l' := (fun v991 => [(0, .ref 0), (1, .int a1), (2, .int a2), (3, .int v960), (4, .int v961), (5, .int v991), (6, .int v986)])) rfl rfl (by decide) (by omega) (fun _ => rfl) (fun v991 ev991 => ?_)
                    refine g_goto ?_
                    refine gG_pick [0, 1, 2, 3, 4, 5] (l' := [(0, .ref 0), (1, .int a1), (2, .int a2), (3, .int v960), (4, .int v961), (5, .int v991)]) rfl ?_
                    exact ihL966 v960 v961 v991 H975 hIH975 hJH975 e982 m983 (by have := gz_any v960; omega) (by omega) (by omega)
            exact L966 _ v957 v958 v959 H945 hIH945 hJH945 e955 m956 (by have := gz_any v957; omega) (by omega) (Nat.lt_succ_self _)
          · refine g_nop ?_
            refine g_iconst (by decide) (fun v992 kv992 => ?_)
            exact g_iret ⟨_, rfl, hIH800, hJH800, (e801.symm.trans ek0_2), m802⟩
set_option maxRecDepth 4000 in
set_option maxHeartbeats 4000000 in
/-- M.travelled -/
theorem s_250 (a1 : Int32) (H : mzH) (hI : gI SM H) (hJ : JN H) : gCall 250 [.ref 0, .int a1] H (gRi (fun v H' => gI SM H' ∧ JN H' ∧ fZ H' 0 2 = fZ H 0 2 ∧ kpM H H')) := by
  obtain ⟨k0_2, ek0_2⟩ : ∃ z, z = fZ H 0 2 := ⟨_, rfl⟩
  have ik0_2 : k0_2.toInt = (fZ H 0 2).toInt := by rw [← ek0_2]
  have bk0_2 : 0 ≤ k0_2.toInt ∧ k0_2.toInt ≤ 900 := by rw [ek0_2]; exact fZ_of hI sm_0 rfl
  have mkfr : kpM H H := kpM_r
  refine gG_call [(0, .ref 0), (1, .int a1)] ⟨rfl, rfl, trivial⟩ ?_
  show gG 6 zB_250 (mzBlk zB_250 0) [(0, .ref 0), (1, .int a1)] [] H 0 0 _
  refine g_aload_n rfl ?_
  refine g_iconst (by decide) (fun v456 kv456 => ?_)
  refine g_pfi hI sm_0 rfl (gz_any _) (fun H457 eH457 hIH457 => ?_)
  have hJH457 : JN H457 := JN_sF eH457 hJ
  have e458 : k0_2 = fZ H457 0 2 := by rw [eH457, fZ_sF_ne (by decide)]; exact ek0_2
  have m459 : kpM H H457 := kpM_F mkfr eH457 (by omega)
  refine g_iload_n rfl ?_
  refine g_invti rfl rfl rfl (s_205 a1 H457 hIH457 hJH457) (fun v462 H460 r461 => ?_)
  obtain ⟨rfl, bv462, p463⟩ := r461
  refine g_if_ne (fun c464 => ?_) (fun c464 => ?_)
  · refine g_aload_n rfl ?_
    refine g_iload_n rfl ?_
    refine g_invvv hIH457 sm_0 rfl rfl rfl rfl (s_214 a1 (by omega) H457 hIH457 hJH457) (fun H465 r466 => ?_)
    obtain ⟨hIH465, hJH465, w467, m468⟩ := r466
    have e469 : k0_2 = fZ H465 0 2 := e458.trans w467.symm
    have m470 : kpM H H465 := kpM_t m459 m468
    refine g_iconst (by decide) (fun v471 kv471 => ?_)
    refine g_istore_n (l' := [(0, .ref 0), (1, .int a1), (2, .int v471)]) rfl rfl ?_
    refine g_iconst (by decide) (fun v472 kv472 => ?_)
    refine g_istore_n (l' := [(0, .ref 0), (1, .int a1), (2, .int v471), (3, .int v472)]) rfl rfl ?_
    refine g_iconst (by decide) (fun v473 kv473 => ?_)
    refine g_istore (l' := [(0, .ref 0), (1, .int a1), (2, .int v471), (3, .int v472), (4, .int v473)]) rfl rfl ?_
    refine g_nop ?_
    have L477 : ∀ (N : Nat) (v474 : Int32) (v475 : Int32) (v476 : Int32), (-1 ≤ v475.toInt ∧ v475.toInt ≤ 7) → (0 ≤ v476.toInt ∧ v476.toInt ≤ 60) → (60 - v476.toInt).toNat < N → gG 6 zB_250 (mzBlk zB_250 2) [(0, .ref 0), (1, .int a1), (2, .int v474), (3, .int v475), (4, .int v476)] [] H465 0 0 (gRi (fun v H' => gI SM H' ∧ JN H' ∧ fZ H' 0 2 = fZ H 0 2 ∧ kpM H H')) := by
      intro N
      induction N with
      | zero => intro v474 v475 v476 bv475 bv476 hmL477; exact absurd hmL477 (Nat.not_lt_zero _)
      | succ N ihL477 =>
        intro v474 v475 v476 bv475 bv476 hmL477
        refine g_iload rfl ?_
        refine g_aload_n rfl ?_
        refine g_gfi hIH465 sm_0 rfl (fun v478 ev478 lv478 uv478 => ?_)
        refine g_if2_ge (fun c479 => ?_) (fun c479 => ?_)
        · refine g_aload_n rfl ?_
          refine g_gfi hIH465 sm_0 rfl (fun v480 ev480 lv480 uv480 => ?_)
          refine g_if_ne (fun c481 => ?_) (fun c481 => ?_)
          · refine g_iload_n rfl ?_
            refine g_nop ?_
            exact g_iret ⟨_, rfl, hIH465, (JM_n hJH465), (e469.symm.trans ek0_2), m470⟩
          · refine g_bipush (by decide) (fun v482 kv482 => ?_)
            refine g_goto ?_
            exact g_iret ⟨_, rfl, hIH465, (JM_n hJH465), (e469.symm.trans ek0_2), m470⟩
        · refine g_aload_n rfl ?_
          refine g_gfr hIH465 sm_0 rfl ?_
          refine g_iload rfl ?_
          refine g_iaload hIH465 sm_22 rfl (by omega) (fun v483 ev483 lv483 uv483 => ?_)
          refine g_istore (l' := [(0, .ref 0), (1, .int a1), (2, .int v474), (3, .int v475), (4, .int v476), (5, .int v483)]) rfl rfl ?_
          refine g_iload rfl ?_
          refine g_if_ge (fun c484 => ?_) (fun c484 => ?_)
          · refine g_iload_n rfl ?_
            refine g_iconst (by decide) (fun v485 kv485 => ?_)
            refine g_if2_eq (fun c486 => ?_) (fun c486 => ?_)
            · refine g_iload rfl ?_
              refine g_istore_n (l' := [(0, .ref 0), (1, .int a1), (2, .int v474), (3, .int v483), (4, .int v476), (5, .int v483)]) rfl rfl ?_
              refine g_nop ?_
              refine g_iinc (l' := (fun v487 => [(0, .ref 0), (1, .int a1), (2, .int v474), (3, .int v483), (4, .int v487), (5, .int v483)])) rfl rfl (by decide) (by omega) (fun _ => rfl) (fun v487 ev487 => ?_)
              refine g_goto ?_
              refine gG_pick [0, 1, 2, 3, 4] (l' := [(0, .ref 0), (1, .int a1), (2, .int v474), (3, .int v483), (4, .int v487)]) rfl ?_
              exact ihL477 v474 v483 v487 (by omega) (by omega) (by omega)
            · refine g_aload_n rfl ?_
              refine g_gfr hIH465 sm_0 rfl ?_
              refine g_bipush (by decide) (fun v488 kv488 => ?_)
              refine g_iload_n rfl ?_
              refine g_imulk' (n := 8) kv488 (by omega) (fun v489 ev489 => ?_)
              refine g_iload rfl ?_
              refine g_iadd (by omega) (fun v490 ev490 => ?_)
              refine g_iaload hIH465 sm_6 rfl (by omega) (fun v491 ev491 lv491 uv491 => ?_)
              refine g_ldc (by decide) (fun v492 kv492 => ?_)
              refine g_if2_ge (fun c493 => ?_) (fun c493 => ?_)
              · refine g_iload rfl ?_
                refine g_istore_n (l' := [(0, .ref 0), (1, .int a1), (2, .int v474), (3, .int v483), (4, .int v476), (5, .int v483)]) rfl rfl ?_
                refine g_nop ?_
                refine g_iinc (l' := (fun v494 => [(0, .ref 0), (1, .int a1), (2, .int v474), (3, .int v483), (4, .int v494), (5, .int v483)])) rfl rfl (by decide) (by omega) (fun _ => rfl) (fun v494 ev494 => ?_)
                refine g_goto ?_
                refine gG_pick [0, 1, 2, 3, 4] (l' := [(0, .ref 0), (1, .int a1), (2, .int v474), (3, .int v483), (4, .int v494)]) rfl ?_
                exact ihL477 v474 v483 v494 (by omega) (by omega) (by omega)
              · refine g_iload_n rfl ?_
                refine g_aload_n rfl ?_
                refine g_gfr hIH465 sm_0 rfl ?_
                refine g_bipush (by decide) (fun v495 kv495 => ?_)
                refine g_iload_n rfl ?_
                refine g_imulk' (n := 8) kv495 (by omega) (fun v496 ev496 => ?_)
                refine g_iload rfl ?_
                refine g_iadd (by omega) (fun v497 ev497 => ?_)
                refine g_iaload hIH465 sm_6 rfl (by omega) (fun v498 ev498 lv498 uv498 => ?_)
                refine g_iadd' (fun v499 ov499 => ?_)
                refine g_istore_n (l' := [(0, .ref 0), (1, .int a1), (2, .int v499), (3, .int v475), (4, .int v476), (5, .int v483)]) rfl rfl ?_
                refine g_nop ?_
                refine g_iload rfl ?_
                refine g_istore_n (l' := [(0, .ref 0), (1, .int a1), (2, .int v499), (3, .int v483), (4, .int v476), (5, .int v483)]) rfl rfl ?_
                refine g_nop ?_
                refine g_iinc (l' := (fun v500 => [(0, .ref 0), (1, .int a1), (2, .int v499), (3, .int v483), (4, .int v500), (5, .int v483)])) rfl rfl (by decide) (by omega) (fun _ => rfl) (fun v500 ev500 => ?_)
                refine g_goto ?_
                refine gG_pick [0, 1, 2, 3, 4] (l' := [(0, .ref 0), (1, .int a1), (2, .int v499), (3, .int v483), (4, .int v500)]) rfl ?_
                exact ihL477 v499 v483 v500 (by omega) (by omega) (by omega)
          · refine g_goto ?_
            refine g_iinc (l' := (fun v501 => [(0, .ref 0), (1, .int a1), (2, .int v474), (3, .int v475), (4, .int v501), (5, .int v483)])) rfl rfl (by decide) (by omega) (fun _ => rfl) (fun v501 ev501 => ?_)
            refine g_goto ?_
            refine gG_pick [0, 1, 2, 3, 4] (l' := [(0, .ref 0), (1, .int a1), (2, .int v474), (3, .int v475), (4, .int v501)]) rfl ?_
            exact ihL477 v474 v475 v501 (by omega) (by omega) (by omega)
    exact L477 _ v471 v472 v473 (by omega) (by omega) (Nat.lt_succ_self _)
  · refine g_iconst (by decide) (fun v502 kv502 => ?_)
    exact g_iret ⟨_, rfl, hIH457, hJH457, (e458.symm.trans ek0_2), m459⟩
set_option maxRecDepth 4000 in
set_option maxHeartbeats 4000000 in
/-- M.lates -/
theorem s_252 (H : mzH) (hI : gI SM H) (hJ : JN H) : gCall 252 [.ref 0] H (gRi (fun v H' => H = H')) := by
  refine gG_call [(0, .ref 0)] ⟨rfl, trivial⟩ ?_
  show gG 3 zB_252 (mzBlk zB_252 0) [(0, .ref 0)] [] H 0 0 _
  refine g_iconst (by decide) (fun v519 kv519 => ?_)
  refine g_istore_n (l' := [(0, .ref 0), (1, .int v519)]) rfl rfl ?_
  refine g_iconst (by decide) (fun v520 kv520 => ?_)
  refine g_istore_n (l' := [(0, .ref 0), (1, .int v519), (2, .int v520)]) rfl rfl ?_
  refine g_nop ?_
  have L523 : ∀ (N : Nat) (v521 : Int32) (v522 : Int32), (0 ≤ v522.toInt ∧ v522.toInt ≤ 60) → (60 - v522.toInt).toNat < N → gG 3 zB_252 (mzBlk zB_252 1) [(0, .ref 0), (1, .int v521), (2, .int v522)] [] H 0 0 (gRi (fun v H' => H = H')) := by
    intro N
    induction N with
    | zero => intro v521 v522 bv522 hmL523; exact absurd hmL523 (Nat.not_lt_zero _)
    | succ N ihL523 =>
      intro v521 v522 bv522 hmL523
      refine g_iload_n rfl ?_
      refine g_aload_n rfl ?_
      refine g_invvi hI sm_0 rfl rfl rfl rfl (s_180 H hI hJ) (fun v526 H524 r525 => ?_)
      obtain ⟨rfl, bv526, p527⟩ := r525
      refine g_if2_ge (fun c528 => ?_) (fun c528 => ?_)
      · refine g_iload_n rfl ?_
        exact g_iret ⟨_, rfl, rfl⟩
      · refine g_iload_n rfl ?_
        refine g_aload_n rfl ?_
        refine g_iload_n rfl ?_
        refine g_invvi hI sm_0 rfl rfl rfl rfl (s_204 v522 (by omega) H hI hJ) (fun v531 H529 r530 => ?_)
        obtain ⟨rfl, bv531⟩ := r530
        refine g_if_eq (fun c532 => ?_) (fun c532 => ?_)
        · refine g_iconst (by decide) (fun v533 kv533 => ?_)
          refine g_nop ?_
          refine g_iadd (by have := gz_any v521; omega) (fun v534 ev534 => ?_)
          refine g_istore_n (l' := [(0, .ref 0), (1, .int v534), (2, .int v522)]) rfl rfl ?_
          refine g_iinc (l' := (fun v535 => [(0, .ref 0), (1, .int v534), (2, .int v535)])) rfl rfl (by decide) (by omega) (fun _ => rfl) (fun v535 ev535 => ?_)
          refine g_goto ?_
          exact ihL523 v534 v535 (by omega) (by omega)
        · refine g_iconst (by decide) (fun v536 kv536 => ?_)
          refine g_goto ?_
          refine g_iadd' (fun v537 ov537 => ?_)
          refine g_istore_n (l' := [(0, .ref 0), (1, .int v537), (2, .int v522)]) rfl rfl ?_
          refine g_iinc (l' := (fun v538 => [(0, .ref 0), (1, .int v537), (2, .int v538)])) rfl rfl (by decide) (by omega) (fun _ => rfl) (fun v538 ev538 => ?_)
          refine g_goto ?_
          exact ihL523 v537 v538 (by omega) (by omega)
  exact L523 _ v519 v520 (by omega) (Nat.lt_succ_self _)
set_option maxRecDepth 4000 in
set_option maxHeartbeats 4000000 in
/-- M.count -/
theorem s_251 (a1 : Int32) (H : mzH) (hI : gI SM H) (hJ : JN H) : gCall 251 [.ref 0, .int a1] H (gRi (fun v H' => gI SM H' ∧ JN H' ∧ fZ H' 0 2 = fZ H 0 2 ∧ kpM H H')) := by
  obtain ⟨k0_2, ek0_2⟩ : ∃ z, z = fZ H 0 2 := ⟨_, rfl⟩
  have ik0_2 : k0_2.toInt = (fZ H 0 2).toInt := by rw [← ek0_2]
  have bk0_2 : 0 ≤ k0_2.toInt ∧ k0_2.toInt ≤ 900 := by rw [ek0_2]; exact fZ_of hI sm_0 rfl
  have mkfr : kpM H H := kpM_r
  refine gG_call [(0, .ref 0), (1, .int a1)] ⟨rfl, rfl, trivial⟩ ?_
  show gG 2 zB_251 (mzBlk zB_251 0) [(0, .ref 0), (1, .int a1)] [] H 0 0 _
  refine g_aload_n rfl ?_
  refine g_iconst (by decide) (fun v85 kv85 => ?_)
  refine g_pfi hI sm_0 rfl (gz_any _) (fun H86 eH86 hIH86 => ?_)
  have hJH86 : JN H86 := JN_sF eH86 hJ
  have e87 : k0_2 = fZ H86 0 2 := by rw [eH86, fZ_sF_ne (by decide)]; exact ek0_2
  have m88 : kpM H H86 := kpM_F mkfr eH86 (by omega)
  refine g_iload_n rfl ?_
  refine g_sw (by decide) (fun c89 => ?_) ⟨fun c89 => ?_, fun c89 => ?_, fun c89 => ?_, fun c89 => ?_, fun c89 => ?_, fun c89 => ?_, fun c89 => ?_, trivial⟩
  · refine g_iconst (by decide) (fun v90 kv90 => ?_)
    exact g_iret ⟨_, rfl, hIH86, hJH86, (e87.symm.trans ek0_2), m88⟩
  · refine g_aload_n rfl ?_
    refine g_gfr hIH86 sm_0 rfl ?_
    refine g_iconst (by decide) (fun v91 kv91 => ?_)
    refine g_iaload hIH86 sm_2 rfl (by omega) (fun v92 ev92 lv92 uv92 => ?_)
    have qv92 := JN_n20 hJH86 (v := v92) (by rw [ev92, show v91.toInt.toNat = 0 from by omega])
    exact g_iret ⟨_, rfl, hIH86, hJH86, (e87.symm.trans ek0_2), m88⟩
  · refine g_aload_n rfl ?_
    refine g_gfr hIH86 sm_0 rfl ?_
    refine g_iconst (by decide) (fun v93 kv93 => ?_)
    refine g_iaload hIH86 sm_2 rfl (by omega) (fun v94 ev94 lv94 uv94 => ?_)
    exact g_iret ⟨_, rfl, hIH86, hJH86, (e87.symm.trans ek0_2), m88⟩
  · refine g_aload_n rfl ?_
    refine g_invvi hIH86 sm_0 rfl rfl rfl rfl (s_180 H86 hIH86 hJH86) (fun v97 H95 r96 => ?_)
    obtain ⟨rfl, bv97, p98⟩ := r96
    exact g_iret ⟨_, rfl, hIH86, hJH86, (e87.symm.trans ek0_2), m88⟩
  · refine g_aload_n rfl ?_
    refine g_invvi hIH86 sm_0 rfl rfl rfl rfl (s_252 H86 hIH86 hJH86) (fun v101 H99 r100 => ?_)
    obtain rfl := r100
    exact g_iret ⟨_, rfl, hIH86, hJH86, (e87.symm.trans ek0_2), m88⟩
  · refine g_aload_n rfl ?_
    refine g_gfr hIH86 sm_0 rfl ?_
    refine g_iconst (by decide) (fun v102 kv102 => ?_)
    refine g_iaload hIH86 sm_2 rfl (by omega) (fun v103 ev103 lv103 uv103 => ?_)
    exact g_iret ⟨_, rfl, hIH86, hJH86, (e87.symm.trans ek0_2), m88⟩
  · refine g_aload_n rfl ?_
    refine g_gfr hIH86 sm_0 rfl ?_
    refine g_iconst (by decide) (fun v104 kv104 => ?_)
    refine g_iaload hIH86 sm_2 rfl (by omega) (fun v105 ev105 lv105 uv105 => ?_)
    exact g_iret ⟨_, rfl, hIH86, hJH86, (e87.symm.trans ek0_2), m88⟩
  · refine g_aload_n rfl ?_
    refine g_gfk hIH86 sm_0 rfl e87 ?_
    exact g_iret ⟨_, rfl, hIH86, hJH86, (e87.symm.trans ek0_2), m88⟩
