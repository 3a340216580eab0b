/-! THE REFERENCE'S SETS -/
theorem rt_mk {H A H2 : mzH} {h : Int} (t : tkW H A) (r : ∃ G : mzH, clR (rgM G) (mdM G) ∧ ∃ p : Nat, rwX H2 (fM A G p).1 (fM A G p).2 ∧ stM A h p ∧ (∀ x : Nat, x < p → (aZ H2 20 (odM A x)).toInt = rvM A G x) ∧ odI H2 A (aZ A 2 2).toInt.toNat) (k : ∀ i, aZ H2 18 i = aZ A 18 i) : ∃ A : mzH, tkW H A ∧ ∃ G : mzH, clR (rgM G) (mdM G) ∧ ∃ p : Nat, rwX H2 (fM A G p).1 (fM A G p).2 ∧ stM A h p ∧ (∀ x : Nat, x < p → (aZ H2 20 (odM A x)).toInt = rvM A G x) ∧ odI H2 A (aZ A 2 2).toInt.toNat ∧ (∀ i, aZ H2 18 i = aZ A 18 i) := by
  obtain ⟨G, h1, p, h2, h3, h4, h5⟩ := r
  exact ⟨A, t, G, h1, p, h2, h3, h4, h5, k⟩
theorem ad_s {B C : mzH} {k k2 v : Int32} {P : Nat → Prop} (q : ∀ x : Nat, x < k.toInt.toNat → ((aZ B 25 x).toInt = 1 ↔ P x)) (hI : gI SM B) (e : C = sA B 25 k.toInt.toNat v) (hk : k.toInt.toNat < 40) (hv : v.toInt = 1 ↔ P k.toInt.toNat) (e2 : k2.toInt = k.toInt + 1 ∧ 0 ≤ k.toInt) : ∀ x : Nat, x < k2.toInt.toNat → ((aZ C 25 x).toInt = 1 ↔ P x) := fun x hx => by
  if c : x = k.toInt.toNat then rw [e, c, aZ_sA_eq hI sm_25 hk]; exact hv
  else
    rw [e, aZ_sA_ne (Ne.symm c)]
    exact q x (by omega)
set_option maxRecDepth 4000 in
set_option maxHeartbeats 4000000 in
/-- M.runsTo -/
theorem rt_200 (a1 : Int32) (H : mzH) (hI : gI SM H) (hJ : JN H) (hp0 : (∀ A, tkW H A → gdM A)) : gCall 200 [.ref 0, .int a1] H (gRv (fun H' => gI SM H' ∧ JM H' ∧ fZ H' 0 2 = fZ H 0 2 ∧ kpM H H' ∧ (∃ A : mzH, tkW H A ∧ ∃ G : mzH, clR (rgM G) (mdM G) ∧ ∃ p : Nat, rwX H' (fM A G p).1 (fM A G p).2 ∧ stM A a1.toInt p ∧ (∀ x : Nat, x < p → (aZ H' 20 (odM A x)).toInt = rvM A G x) ∧ odI H' A (aZ A 2 2).toInt.toNat ∧ (∀ i, aZ H' 18 i = aZ A 18 i)))) := by
  obtain ⟨k0_2, ek0_2⟩ : ∃ z, z = fZ H 0 2 := ⟨_, rfl⟩
  have ik0_2 : k0_2.toInt = (fZ H 0 2).toInt := by rw [← ek0_2]
  have bk0_2 : 0 ≤ k0_2.toInt ∧ k0_2.toInt ≤ 900 := by rw [ek0_2]; exact fZ_of hI sm_0 rfl
  have mkfr : kpM H H := kpM_r
  refine gG_call [(0, .ref 0), (1, .int a1)] ⟨rfl, rfl, trivial⟩ ?_
  show gG 2 zB_200 (mzBlk zB_200 0) [(0, .ref 0), (1, .int a1)] [] H 0 0 _
  refine g_aload_n rfl ?_
  refine g_invvv hI sm_0 rfl rfl rfl rfl (r_182 H hI hJ) (fun H89 r90 => ?_)
  obtain ⟨hIH89, hJH89, m91, m92, m93, m94, p95, p96⟩ := r90
  have e97 : k0_2 = fZ H89 0 2 := ek0_2.trans (m91 0 2).symm
  have m98 : kpM H H89 := kpM_t mkfr m93
  refine g_aload_n rfl ?_
  refine g_iload_n rfl ?_
  refine g_invvv hIH89 sm_0 rfl rfl rfl rfl (r_198 a1 H89 hIH89 hJH89 (hp0 H89 ⟨m93, m92, p96⟩)) (fun H99 r100 => ?_)
  obtain ⟨hIH99, hJH99, w101, m102, m103, m104, m105, m106, p107, p108⟩ := r100
  have e109 : k0_2 = fZ H99 0 2 := e97.trans w101.symm
  have m110 : kpM H H99 := kpM_t m98 m104
  exact g_ret ⟨rfl, hIH99, hJH99, (e109.symm.trans ek0_2), m110, (rt_mk ⟨m93, m92, p96⟩ p108 m105)⟩
set_option maxRecDepth 4000 in
set_option maxHeartbeats 4000000 in
/-- M.adds -/
theorem r_238 {s : pS} {md : Nat → Int} (a1 : Int32) (ha1 : 0 ≤ a1.toInt ∧ a1.toInt ≤ 39) (H : mzH) (hI : gI SM H) (hJ : JM H) (hp0 : rwX H s md) (hp1 : dpt s) : gCall 238 [.ref 0, .int a1] H (gRv (fun H' => gI SM H' ∧ JM H' ∧ (∀ a f, fZ H' a f = fZ H a f) ∧ kpM H H' ∧ (∀ i, aZ H' 2 i = aZ H 2 i) ∧ (∀ i, aZ H' 17 i = aZ H 17 i) ∧ (∀ i, aZ H' 18 i = aZ H 18 i) ∧ (∀ i, aZ H' 19 i = aZ H 19 i) ∧ rwX H' s md ∧ (∀ x : Nat, x < 40 → ((aZ H' 25 x).toInt = 1 ↔ ((aZ H 25 x).toInt = 1 ∨ inn s x a1.toInt = 1))))) := by
  have mkF : ∀ a f, fZ H a f = fZ H a f := fun _ _ => rfl
  have mkfr : kpM H H := kpM_r
  have mk2 : ∀ i, aZ H 2 i = aZ H 2 i := fun _ => rfl
  have mk17 : ∀ i, aZ H 17 i = aZ H 17 i := fun _ => rfl
  have mk18 : ∀ i, aZ H 18 i = aZ H 18 i := fun _ => rfl
  have mk19 : ∀ i, aZ H 19 i = aZ H 19 i := fun _ => rfl
  refine gG_call [(0, .ref 0), (1, .int a1)] ⟨rfl, rfl, trivial⟩ ?_
  show gG 3 zB_238 (mzBlk zB_238 0) [(0, .ref 0), (1, .int a1)] [] H 0 0 _
  refine g_iconst (by decide) (fun v461 kv461 => ?_)
  refine g_istore_n (l' := [(0, .ref 0), (1, .int a1), (2, .int v461)]) rfl rfl ?_
  refine g_nop ?_
  have L470 : ∀ (N : Nat) (v462 : Int32) (H463 : mzH), gI SM H463 → JM H463 → (∀ a f, fZ H463 a f = fZ H a f) → kpM H H463 → (∀ i, aZ H463 2 i = aZ H 2 i) → (∀ i, aZ H463 17 i = aZ H 17 i) → (∀ i, aZ H463 18 i = aZ H 18 i) → (∀ i, aZ H463 19 i = aZ H 19 i) → (0 ≤ v462.toInt ∧ v462.toInt ≤ 40) → rwX H463 s md → (∀ x : Nat, x < v462.toInt.toNat → ((aZ H463 25 x).toInt = 1 ↔ ((aZ H 25 x).toInt = 1 ∨ inn s x a1.toInt = 1))) → (∀ x : Nat, v462.toInt.toNat ≤ x → aZ H463 25 x = aZ H 25 x) → (40 - v462.toInt).toNat < N → gG 3 zB_238 (mzBlk zB_238 1) [(0, .ref 0), (1, .int a1), (2, .int v462)] [] H463 0 0 (gRv (fun H' => gI SM H' ∧ JM H' ∧ (∀ a f, fZ H' a f = fZ H a f) ∧ kpM H H' ∧ (∀ i, aZ H' 2 i = aZ H 2 i) ∧ (∀ i, aZ H' 17 i = aZ H 17 i) ∧ (∀ i, aZ H' 18 i = aZ H 18 i) ∧ (∀ i, aZ H' 19 i = aZ H 19 i) ∧ rwX H' s md ∧ (∀ x : Nat, x < 40 → ((aZ H' 25 x).toInt = 1 ↔ ((aZ H 25 x).toInt = 1 ∨ inn s x a1.toInt = 1))))) := by
    intro N
    induction N with
    | zero => intro v462 H463 hIH463 hJH463 m464 m465 m466 m467 m468 m469 bv462 q5 q1 q2 hmL470; exact absurd hmL470 (Nat.not_lt_zero _)
    | succ N ihL470 =>
      intro v462 H463 hIH463 hJH463 m464 m465 m466 m467 m468 m469 bv462 q5 q1 q2 hmL470
      refine g_iload_n rfl ?_
      refine g_bipush (by decide) (fun v471 kv471 => ?_)
      refine g_if2_ge (fun c472 => ?_) (fun c472 => ?_)
      · exact g_ret ⟨rfl, hIH463, hJH463, m464, m465, m466, m467, m468, m469, q5, (fun x hx => q1 x (by omega))⟩
      · refine g_aload_n rfl ?_
        refine g_gfr hIH463 sm_0 rfl ?_
        refine g_iload_n rfl ?_
        refine g_aload_n rfl ?_
        refine g_gfr hIH463 sm_0 rfl ?_
        refine g_iload_n rfl ?_
        refine g_baload hIH463 sm_25 rfl (by omega) (fun v473 ev473 lv473 uv473 => ?_)
        have yv473 : v473.toInt = (aZ H 25 v462.toInt.toNat).toInt := by rw [ev473, q2 _ (by omega)]
        refine g_if_ne (fun c474 => ?_) (fun c474 => ?_)
        · refine g_iconst (by decide) (fun v475 kv475 => ?_)
          refine g_goto ?_
          refine g_zastore hIH463 sm_25 (by omega) (by omega) (fun H476 eH476 hIH476 => ?_)
          have hJH476 : JM H476 := JM_sA (by decide) eH476 hJH463
          have m477 : ∀ a f, fZ H476 a f = fZ H a f := fun a f => (by rw [eH476, fZ_sA] : fZ H476 a f = fZ H463 a f).trans (m464 a f)
          have m478 : kpM H H476 := kpM_A m465 eH476 (by omega)
          have m479 : ∀ i, aZ H476 2 i = aZ H 2 i := fun i => (by rw [eH476, aZ_sA_nc (by omega)] : aZ H476 2 i = aZ H463 2 i).trans (m466 i)
          have m480 : ∀ i, aZ H476 17 i = aZ H 17 i := fun i => (by rw [eH476, aZ_sA_nc (by omega)] : aZ H476 17 i = aZ H463 17 i).trans (m467 i)
          have m481 : ∀ i, aZ H476 18 i = aZ H 18 i := fun i => (by rw [eH476, aZ_sA_nc (by omega)] : aZ H476 18 i = aZ H463 18 i).trans (m468 i)
          have m482 : ∀ i, aZ H476 19 i = aZ H 19 i := fun i => (by rw [eH476, aZ_sA_nc (by omega)] : aZ H476 19 i = aZ H463 19 i).trans (m469 i)
          have wdH476 : rwX H476 s md := rw_o q5 eH476 (by decide)
          refine g_iinc (l' := (fun v483 => [(0, .ref 0), (1, .int a1), (2, .int v483)])) rfl rfl (by decide) (by omega) (fun _ => rfl) (fun v483 ev483 => ?_)
          refine g_goto ?_
          exact ihL470 v483 H476 hIH476 hJH476 m477 m478 m479 m480 m481 m482 (by omega) wdH476 (ad_s q1 hIH463 eH476 (by omega) (by omega) (by omega)) (fun x hx => by rw [eH476, aZ_sA_ne (by omega)]; exact q2 x (by omega)) (by omega)
        · refine g_aload_n rfl ?_
          refine g_iload_n rfl ?_
          refine g_iload_n rfl ?_
          refine g_invvi hIH463 sm_0 rfl rfl rfl rfl (r_186 v462 (by omega) a1 (by omega) H463 hIH463 hJH463 q5 hp1) (fun v486 H484 r485 => ?_)
          obtain ⟨rfl, bv486, p487⟩ := r485
          have ibv486 := inn_b (s := s) (n := v462.toInt.toNat) (o := a1.toInt)
          refine g_if_eq (fun c488 => ?_) (fun c488 => ?_)
          · refine g_iconst (by decide) (fun v489 kv489 => ?_)
            refine g_nop ?_
            refine g_zastore hIH463 sm_25 (by omega) (by omega) (fun H490 eH490 hIH490 => ?_)
            have hJH490 : JM H490 := JM_sA (by decide) eH490 hJH463
            have m491 : ∀ a f, fZ H490 a f = fZ H a f := fun a f => (by rw [eH490, fZ_sA] : fZ H490 a f = fZ H463 a f).trans (m464 a f)
            have m492 : kpM H H490 := kpM_A m465 eH490 (by omega)
            have m493 : ∀ i, aZ H490 2 i = aZ H 2 i := fun i => (by rw [eH490, aZ_sA_nc (by omega)] : aZ H490 2 i = aZ H463 2 i).trans (m466 i)
            have m494 : ∀ i, aZ H490 17 i = aZ H 17 i := fun i => (by rw [eH490, aZ_sA_nc (by omega)] : aZ H490 17 i = aZ H463 17 i).trans (m467 i)
            have m495 : ∀ i, aZ H490 18 i = aZ H 18 i := fun i => (by rw [eH490, aZ_sA_nc (by omega)] : aZ H490 18 i = aZ H463 18 i).trans (m468 i)
            have m496 : ∀ i, aZ H490 19 i = aZ H 19 i := fun i => (by rw [eH490, aZ_sA_nc (by omega)] : aZ H490 19 i = aZ H463 19 i).trans (m469 i)
            have wdH490 : rwX H490 s md := rw_o q5 eH490 (by decide)
            refine g_iinc (l' := (fun v497 => [(0, .ref 0), (1, .int a1), (2, .int v497)])) rfl rfl (by decide) (by omega) (fun _ => rfl) (fun v497 ev497 => ?_)
            refine g_goto ?_
            exact ihL470 v497 H490 hIH490 hJH490 m491 m492 m493 m494 m495 m496 (by omega) wdH490 (ad_s q1 hIH463 eH490 (by omega) (by omega) (by omega)) (fun x hx => by rw [eH490, aZ_sA_ne (by omega)]; exact q2 x (by omega)) (by omega)
          · refine g_nop ?_
            refine g_iconst (by decide) (fun v498 kv498 => ?_)
            refine g_goto ?_
            refine g_zastore hIH463 sm_25 (by omega) (by omega) (fun H499 eH499 hIH499 => ?_)
            have hJH499 : JM H499 := JM_sA (by decide) eH499 hJH463
            have m500 : ∀ a f, fZ H499 a f = fZ H a f := fun a f => (by rw [eH499, fZ_sA] : fZ H499 a f = fZ H463 a f).trans (m464 a f)
            have m501 : kpM H H499 := kpM_A m465 eH499 (by omega)
            have m502 : ∀ i, aZ H499 2 i = aZ H 2 i := fun i => (by rw [eH499, aZ_sA_nc (by omega)] : aZ H499 2 i = aZ H463 2 i).trans (m466 i)
            have m503 : ∀ i, aZ H499 17 i = aZ H 17 i := fun i => (by rw [eH499, aZ_sA_nc (by omega)] : aZ H499 17 i = aZ H463 17 i).trans (m467 i)
            have m504 : ∀ i, aZ H499 18 i = aZ H 18 i := fun i => (by rw [eH499, aZ_sA_nc (by omega)] : aZ H499 18 i = aZ H463 18 i).trans (m468 i)
            have m505 : ∀ i, aZ H499 19 i = aZ H 19 i := fun i => (by rw [eH499, aZ_sA_nc (by omega)] : aZ H499 19 i = aZ H463 19 i).trans (m469 i)
            have wdH499 : rwX H499 s md := rw_o q5 eH499 (by decide)
            refine g_iinc (l' := (fun v506 => [(0, .ref 0), (1, .int a1), (2, .int v506)])) rfl rfl (by decide) (by omega) (fun _ => rfl) (fun v506 ev506 => ?_)
            refine g_goto ?_
            exact ihL470 v506 H499 hIH499 hJH499 m500 m501 m502 m503 m504 m505 (by omega) wdH499 (ad_s q1 hIH463 eH499 (by omega) (by omega) (by omega)) (fun x hx => by rw [eH499, aZ_sA_ne (by omega)]; exact q2 x (by omega)) (by omega)
  exact L470 _ v461 H hI hJ mkF mkfr mk2 mk17 mk18 mk19 (by omega) hp0 (fun x hx => by omega) (fun x hx => rfl) (Nat.lt_succ_self _)
set_option maxRecDepth 4000 in
set_option maxHeartbeats 4000000 in
/-- M.pick -/
theorem r_236 (a1 : Int32) (H : mzH) (hI : gI SM H) (hJ : JN H) (hp0 : 0 ≤ a1.toInt) : gCall 236 [.ref 25, .int a1] H (gRi (fun v H' => H = H' ∧ v.toInt = pkF (fun x => (aZ H 25 x).toInt) 40 0 a1.toInt)) := by
  refine gG_call [(0, .ref 25), (1, .int a1)] ⟨rfl, rfl, trivial⟩ ?_
  show gG 4 zB_236 (mzBlk zB_236 0) [(0, .ref 25), (1, .int a1)] [] H 0 0 _
  refine g_iload_n rfl ?_
  refine g_istore_n (l' := [(0, .ref 25), (1, .int a1), (2, .int a1)]) rfl rfl ?_
  refine g_iconst (by decide) (fun v141 kv141 => ?_)
  refine g_istore_n (l' := [(0, .ref 25), (1, .int a1), (2, .int a1), (3, .int v141)]) rfl rfl ?_
  refine g_nop ?_
  have L144 : ∀ (N : Nat) (v142 : Int32) (v143 : Int32), (0 ≤ v142.toInt ∧ v142.toInt ≤ 2147483647) → (0 ≤ v143.toInt ∧ v143.toInt ≤ 40) → pkF (fun x => (aZ H 25 x).toInt) (40 - v143.toInt.toNat) v143.toInt.toNat v142.toInt = pkF (fun x => (aZ H 25 x).toInt) 40 0 a1.toInt → (0 ≤ v142.toInt) → (40 - v143.toInt).toNat < N → gG 4 zB_236 (mzBlk zB_236 1) [(0, .ref 25), (1, .int a1), (2, .int v142), (3, .int v143)] [] H 0 0 (gRi (fun v H' => H = H' ∧ v.toInt = pkF (fun x => (aZ H 25 x).toInt) 40 0 a1.toInt)) := by
    intro N
    induction N with
    | zero => intro v142 v143 bv142 bv143 q1 q3 hmL144; exact absurd hmL144 (Nat.not_lt_zero _)
    | succ N ihL144 =>
      intro v142 v143 bv142 bv143 q1 q3 hmL144
      refine g_iload_n rfl ?_
      refine g_bipush (by decide) (fun v145 kv145 => ?_)
      refine g_if2_ge (fun c146 => ?_) (fun c146 => ?_)
      · refine g_bipush (by decide) (fun v147 kv147 => ?_)
        exact g_iret ⟨_, rfl, rfl, (by rw [pk_e q1 (by omega)]; omega)⟩
      · refine g_aload_n rfl ?_
        refine g_iload_n rfl ?_
        refine g_baload hI sm_25 rfl (by omega) (fun v148 ev148 lv148 uv148 => ?_)
        have yv148 : v148.toInt = (aZ H 25 v143.toInt.toNat).toInt := by rw [ev148]
        refine g_if_ne (fun c149 => ?_) (fun c149 => ?_)
        · refine g_iload_n rfl ?_
          refine g_if_ne (fun c150 => ?_) (fun c150 => ?_)
          · refine g_iinc (l' := (fun v151 => [(0, .ref 25), (1, .int a1), (2, .int v151), (3, .int v143)])) rfl rfl (by decide) (by have := gz_any v142; omega) (fun _ => rfl) (fun v151 ev151 => ?_)
            refine g_nop ?_
            refine g_iinc (l' := (fun v152 => [(0, .ref 25), (1, .int a1), (2, .int v151), (3, .int v152)])) rfl rfl (by decide) (by omega) (fun _ => rfl) (fun v152 ev152 => ?_)
            refine g_goto ?_
            exact ihL144 v151 v152 (by have := gz_any v151; omega) (by omega) (pk_s q1 (by show (aZ H 25 v143.toInt.toNat).toInt = 1; omega) (by omega) (by omega) (by omega) (by omega)) (by omega) (by omega)
          · refine g_iload_n rfl ?_
            exact g_iret ⟨_, rfl, rfl, (by rw [← q1, pk_y (by show (aZ H 25 v143.toInt.toNat).toInt = 1; omega) (by omega) (by omega)]; omega)⟩
        · refine g_goto ?_
          refine g_iinc (l' := (fun v153 => [(0, .ref 25), (1, .int a1), (2, .int v142), (3, .int v153)])) rfl rfl (by decide) (by omega) (fun _ => rfl) (fun v153 ev153 => ?_)
          refine g_goto ?_
          exact ihL144 v142 v153 (by have := gz_any v142; omega) (by omega) (pk_n q1 (by show ¬ (aZ H 25 v143.toInt.toNat).toInt = 1; omega) (by omega) (by omega) (by omega)) (by omega) (by omega)
  exact L144 _ a1 v141 (by have := gz_any a1; omega) (by omega) (by rw [show (40 - v141.toInt.toNat) = 40 by omega, show v141.toInt.toNat = 0 by omega]) (by omega) (Nat.lt_succ_self _)
set_option maxRecDepth 4000 in
set_option maxHeartbeats 4000000 in
/-- M.wereIn -/
theorem r_239 (a1 : Int32) (a2 : Int32) (a3 : Int32) (a4 : Int32) (H : mzH) (hI : gI SM H) (hJ : JN H) (hp0 : ((∀ A, tkW H A → gdM A))) : gCall 239 [.ref 0, .int a1, .int a2, .int a3, .int a4] H (gRi (fun v H' => gI SM H' ∧ JN H' ∧ fZ H' 0 2 = fZ H 0 2 ∧ kpM H H' ∧ ((v.toInt = -1 ∧ ¬ ((0 ≤ a1.toInt ∧ a1.toInt ≤ 39) ∧ (0 ≤ a2.toInt ∧ a2.toInt ≤ 999) ∧ (0 ≤ a3.toInt ∧ a3.toInt ≤ 999) ∧ (a2.toInt ≤ a3.toInt) ∧ 0 ≤ a4.toInt)) ∨ (((0 ≤ a1.toInt ∧ a1.toInt ≤ 39) ∧ (0 ≤ a2.toInt ∧ a2.toInt ≤ 999) ∧ (0 ≤ a3.toInt ∧ a3.toInt ≤ 999) ∧ (a2.toInt ≤ a3.toInt) ∧ 0 ≤ a4.toInt) ∧ ∃ A : mzH, tkW H A ∧ ∃ G : mzH, clR (rgM G) (mdM G) ∧ (∃ p : Nat, stM A a2.toInt p ∧ ∃ g : Nat → Int, (∀ x : Nat, x < 40 → (g x = 1 ↔ wiP (fun q => (fM A G q).1) a1.toInt p (ixF (hqM A) a3.toInt p (cnM A)) x)) ∧ v.toInt = pkF g 40 0 a4.toInt))))) := by
  obtain ⟨k0_2, ek0_2⟩ : ∃ z, z = fZ H 0 2 := ⟨_, rfl⟩
  have ik0_2 : k0_2.toInt = (fZ H 0 2).toInt := by rw [← ek0_2]
  have bk0_2 : 0 ≤ k0_2.toInt ∧ k0_2.toInt ≤ 900 := by rw [ek0_2]; exact fZ_of hI sm_0 rfl
  have mkfr : kpM H H := kpM_r
  refine gG_call [(0, .ref 0), (1, .int a1), (2, .int a2), (3, .int a3), (4, .int a4)] ⟨rfl, rfl, rfl, rfl, rfl, trivial⟩ ?_
  show gG 7 zB_239 (mzBlk zB_239 0) [(0, .ref 0), (1, .int a1), (2, .int a2), (3, .int a3), (4, .int a4)] [] H 0 0 _
  refine g_aload_n rfl ?_
  refine g_iconst (by decide) (fun v1163 kv1163 => ?_)
  refine g_pfi hI sm_0 rfl (gz_any _) (fun H1164 eH1164 hIH1164 => ?_)
  have hJH1164 : JN H1164 := JN_sF eH1164 hJ
  have e1165 : k0_2 = fZ H1164 0 2 := by rw [eH1164, fZ_sF_ne (by decide)]; exact ek0_2
  have m1166 : kpM H H1164 := kpM_F mkfr eH1164 (by omega)
  refine g_iload_n rfl ?_
  refine g_invti rfl rfl rfl (r_205 a1 H1164 hIH1164 hJH1164) (fun v1169 H1167 r1168 => ?_)
  obtain ⟨rfl, bv1169, p1170⟩ := r1168
  refine g_if_eq (fun c1171 => ?_) (fun c1171 => ?_)
  · refine g_iconst (by decide) (fun v1172 kv1172 => ?_)
    exact g_iret ⟨_, rfl, hIH1164, hJH1164, (e1165.symm.trans ek0_2), m1166, (Or.inl ⟨by omega, by omega⟩)⟩
  · refine g_iload_n rfl ?_
    refine g_invti rfl rfl rfl (r_206 a2 H1164 hIH1164 hJH1164) (fun v1175 H1173 r1174 => ?_)
    obtain ⟨rfl, bv1175, p1176⟩ := r1174
    refine g_if_eq (fun c1177 => ?_) (fun c1177 => ?_)
    · refine g_iconst (by decide) (fun v1178 kv1178 => ?_)
      exact g_iret ⟨_, rfl, hIH1164, hJH1164, (e1165.symm.trans ek0_2), m1166, (Or.inl ⟨by omega, by omega⟩)⟩
    · refine g_iload_n rfl ?_
      refine g_invti rfl rfl rfl (r_206 a3 H1164 hIH1164 hJH1164) (fun v1181 H1179 r1180 => ?_)
      obtain ⟨rfl, bv1181, p1182⟩ := r1180
      refine g_if_eq (fun c1183 => ?_) (fun c1183 => ?_)
      · refine g_iconst (by decide) (fun v1184 kv1184 => ?_)
        exact g_iret ⟨_, rfl, hIH1164, hJH1164, (e1165.symm.trans ek0_2), m1166, (Or.inl ⟨by omega, by omega⟩)⟩
      · refine g_iload_n rfl ?_
        refine g_iload_n rfl ?_
        refine g_if2_lt (fun c1185 => ?_) (fun c1185 => ?_)
        · refine g_iconst (by decide) (fun v1186 kv1186 => ?_)
          exact g_iret ⟨_, rfl, hIH1164, hJH1164, (e1165.symm.trans ek0_2), m1166, (Or.inl ⟨by omega, by omega⟩)⟩
        · refine g_iload rfl ?_
          refine g_if_ge (fun c1187 => ?_) (fun c1187 => ?_)
          · refine g_aload_n rfl ?_
            refine g_iload_n rfl ?_
            refine g_invvv hIH1164 sm_0 rfl rfl rfl rfl (rt_200 a2 H1164 hIH1164 hJH1164 (fun A t => hp0 A (tk_kp m1166 t))) (fun H1188 r1189 => ?_)
            obtain ⟨hIH1188, hJH1188, w1190, m1191, p1192⟩ := r1189
            have e1193 : k0_2 = fZ H1188 0 2 := e1165.trans w1190.symm
            have m1194 : kpM H H1188 := kpM_t m1166 m1191
            obtain ⟨A1195, uA1195, G1196, clG1196, p1197, wdp1197, stp1197, wyp1197, odG1196, hoA1195⟩ := p1192
            have tA1195 : tkW H A1195 := tk_kp m1166 uA1195
            have gmA1195 := hp0 A1195 tA1195
            obtain ⟨dpp1197, lap1197⟩ := gmA1195.2 G1196 clG1196 p1197 stp1197.1
            refine g_iconst (by decide) (fun v1198 kv1198 => ?_)
            refine g_istore (l' := [(0, .ref 0), (1, .int a1), (2, .int a2), (3, .int a3), (4, .int a4), (5, .int v1198)]) rfl rfl ?_
            refine g_nop ?_
            have L1207 : ∀ (N : Nat) (v1199 : Int32) (H1200 : mzH), gI SM H1200 → JM H1200 → k0_2 = fZ H1200 0 2 → kpM H H1200 → (0 ≤ v1199.toInt ∧ v1199.toInt ≤ 40) → (∀ i, aZ H1200 18 i = aZ A1195 18 i) → (∀ i, aZ H1200 2 i = aZ A1195 2 i) → (∀ i, aZ H1200 19 i = aZ H1188 19 i) → fZ H1200 0 34 = fZ H1188 0 34 → rwX H1200 (fM A1195 G1196 p1197).1 (fM A1195 G1196 p1197).2 → (∀ q : Nat, q < v1199.toInt.toNat → (aZ H1200 25 q).toInt = 0) → (40 - v1199.toInt).toNat < N → gG 7 zB_239 (mzBlk zB_239 3) [(0, .ref 0), (1, .int a1), (2, .int a2), (3, .int a3), (4, .int a4), (5, .int v1199)] [] H1200 0 0 (gRi (fun v H' => gI SM H' ∧ JN H' ∧ fZ H' 0 2 = fZ H 0 2 ∧ kpM H H' ∧ ((v.toInt = -1 ∧ ¬ ((0 ≤ a1.toInt ∧ a1.toInt ≤ 39) ∧ (0 ≤ a2.toInt ∧ a2.toInt ≤ 999) ∧ (0 ≤ a3.toInt ∧ a3.toInt ≤ 999) ∧ (a2.toInt ≤ a3.toInt) ∧ 0 ≤ a4.toInt)) ∨ (((0 ≤ a1.toInt ∧ a1.toInt ≤ 39) ∧ (0 ≤ a2.toInt ∧ a2.toInt ≤ 999) ∧ (0 ≤ a3.toInt ∧ a3.toInt ≤ 999) ∧ (a2.toInt ≤ a3.toInt) ∧ 0 ≤ a4.toInt) ∧ ∃ A : mzH, tkW H A ∧ ∃ G : mzH, clR (rgM G) (mdM G) ∧ (∃ p : Nat, stM A a2.toInt p ∧ ∃ g : Nat → Int, (∀ x : Nat, x < 40 → (g x = 1 ↔ wiP (fun q => (fM A G q).1) a1.toInt p (ixF (hqM A) a3.toInt p (cnM A)) x)) ∧ v.toInt = pkF g 40 0 a4.toInt))))) := by
              intro N
              induction N with
              | zero => intro v1199 H1200 hIH1200 hJH1200 e1201 m1202 bv1199 xq1203 xq1204 xq1205 xq1206 q5 q7 hmL1207; exact absurd hmL1207 (Nat.not_lt_zero _)
              | succ N ihL1207 =>
                intro v1199 H1200 hIH1200 hJH1200 e1201 m1202 bv1199 xq1203 xq1204 xq1205 xq1206 q5 q7 hmL1207
                refine g_iload rfl ?_
                refine g_bipush (by decide) (fun v1208 kv1208 => ?_)
                refine g_if2_ge (fun c1209 => ?_) (fun c1209 => ?_)
                · have s00 : ∀ x : Nat, x < 40 → (aZ H1200 25 x).toInt = 0 := fun x hx => q7 x (by omega)
                  refine g_aload_n rfl ?_
                  refine g_iload_n rfl ?_
                  refine g_invvv hIH1200 sm_0 rfl rfl rfl rfl (r_238 a1 (by omega) H1200 hIH1200 hJH1200 q5 dpp1197) (fun H1210 r1211 => ?_)
                  obtain ⟨hIH1210, hJH1210, m1212, m1213, m1214, m1215, m1216, m1217, p1218, p1219⟩ := r1211
                  have e1220 : k0_2 = fZ H1210 0 2 := e1201.trans (m1212 0 2).symm
                  have m1221 : kpM H H1210 := kpM_t m1202 m1213
                  have xm1222 : (∀ i, aZ H1210 18 i = aZ A1195 18 i) := fun i => (m1216 i : aZ H1210 18 i = aZ H1200 18 i).trans (xq1203 i)
                  have xm1223 : (∀ i, aZ H1210 2 i = aZ A1195 2 i) := fun i => (m1214 i : aZ H1210 2 i = aZ H1200 2 i).trans (xq1204 i)
                  have xm1224 : (∀ i, aZ H1210 19 i = aZ H1188 19 i) := fun i => (m1217 i : aZ H1210 19 i = aZ H1200 19 i).trans (xq1205 i)
                  have xm1225 : fZ H1210 0 34 = fZ H1188 0 34 := (m1212 0 34 : fZ H1210 0 34 = fZ H1200 0 34).trans xq1206
                  have s25 : ∀ x : Nat, x < 40 → ((aZ H1210 25 x).toInt = 1 ↔ (wiP (fun q => (fM A1195 G1196 q).1) a1.toInt p1197 p1197) x) := fun x hx => by rw [p1219 x hx, wip_0, s00 x hx]; exact ⟨fun z => z.elim (fun y => absurd y (by decide)) id, Or.inr⟩
                  refine g_iconst (by decide) (fun v1226 kv1226 => ?_)
                  refine g_istore (l' := [(0, .ref 0), (1, .int a1), (2, .int a2), (3, .int a3), (4, .int a4), (5, .int v1226)]) rfl rfl ?_
                  refine g_nop ?_
                  have L1235 : ∀ (N : Nat) (v1227 : Int32) (H1228 : mzH), gI SM H1228 → JM H1228 → k0_2 = fZ H1228 0 2 → kpM H H1228 → (0 ≤ v1227.toInt ∧ v1227.toInt ≤ 60) → (∀ i, aZ H1228 18 i = aZ A1195 18 i) → (∀ i, aZ H1228 2 i = aZ A1195 2 i) → (∀ i, aZ H1228 19 i = aZ H1188 19 i) → fZ H1228 0 34 = fZ H1188 0 34 → rwX H1228 (fM A1195 G1196 (ixF (hqM A1195) a3.toInt p1197 v1227.toInt.toNat)).1 (fM A1195 G1196 (ixF (hqM A1195) a3.toInt p1197 v1227.toInt.toNat)).2 → (∀ x : Nat, x < 40 → ((aZ H1228 25 x).toInt = 1 ↔ (wiP (fun q => (fM A1195 G1196 q).1) a1.toInt p1197 (ixF (hqM A1195) a3.toInt p1197 v1227.toInt.toNat)) x)) → (v1227.toInt : Int) ≤ (cnM A1195 : Int) → (60 - v1227.toInt).toNat < N → gG 7 zB_239 (mzBlk zB_239 5) [(0, .ref 0), (1, .int a1), (2, .int a2), (3, .int a3), (4, .int a4), (5, .int v1227)] [] H1228 0 0 (gRi (fun v H' => gI SM H' ∧ JN H' ∧ fZ H' 0 2 = fZ H 0 2 ∧ kpM H H' ∧ ((v.toInt = -1 ∧ ¬ ((0 ≤ a1.toInt ∧ a1.toInt ≤ 39) ∧ (0 ≤ a2.toInt ∧ a2.toInt ≤ 999) ∧ (0 ≤ a3.toInt ∧ a3.toInt ≤ 999) ∧ (a2.toInt ≤ a3.toInt) ∧ 0 ≤ a4.toInt)) ∨ (((0 ≤ a1.toInt ∧ a1.toInt ≤ 39) ∧ (0 ≤ a2.toInt ∧ a2.toInt ≤ 999) ∧ (0 ≤ a3.toInt ∧ a3.toInt ≤ 999) ∧ (a2.toInt ≤ a3.toInt) ∧ 0 ≤ a4.toInt) ∧ ∃ A : mzH, tkW H A ∧ ∃ G : mzH, clR (rgM G) (mdM G) ∧ (∃ p : Nat, stM A a2.toInt p ∧ ∃ g : Nat → Int, (∀ x : Nat, x < 40 → (g x = 1 ↔ wiP (fun q => (fM A G q).1) a1.toInt p (ixF (hqM A) a3.toInt p (cnM A)) x)) ∧ v.toInt = pkF g 40 0 a4.toInt))))) := by
                    intro N
                    induction N with
                    | zero => intro v1227 H1228 hIH1228 hJH1228 e1229 m1230 bv1227 xq1231 xq1232 xq1233 xq1234 q5 q6 q8 hmL1235; exact absurd hmL1235 (Nat.not_lt_zero _)
                    | succ N ihL1235 =>
                      intro v1227 H1228 hIH1228 hJH1228 e1229 m1230 bv1227 xq1231 xq1232 xq1233 xq1234 q5 q6 q8 hmL1235
                      refine g_iload rfl ?_
                      refine g_aload_n rfl ?_
                      refine g_gfi hIH1228 sm_0 rfl (fun v1236 ev1236 lv1236 uv1236 => ?_)
                      have zv1236 : v1236.toInt = (cnM A1195 : Int) := by rw [ev1236]; exact od_n (od_cg2 xq1233 xq1234 odG1196)
                      refine g_if2_ge (fun c1237 => ?_) (fun c1237 => ?_)
                      · refine g_aload_n rfl ?_
                        refine g_gfr hIH1228 sm_0 rfl ?_
                        refine g_iload rfl ?_
                        refine g_invti rfl rfl rfl (r_236 a4 H1228 hIH1228 (JM_n hJH1228) (by omega)) (fun v1240 H1238 r1239 => ?_)
                        obtain ⟨rfl, p1241⟩ := r1239
                        exact g_iret ⟨_, rfl, hIH1228, (JM_n hJH1228), (e1229.symm.trans ek0_2), m1230, (Or.inr ⟨by omega, A1195, tA1195, G1196, clG1196, p1197, stp1197, _, by rw [show cnM A1195 = v1227.toInt.toNat by omega]; exact q6, p1241⟩)⟩
                      · refine g_aload_n rfl ?_
                        refine g_gfr hIH1228 sm_0 rfl ?_
                        refine g_aload_n rfl ?_
                        refine g_gfr hIH1228 sm_0 rfl ?_
                        refine g_iload rfl ?_
                        refine g_iaload hIH1228 sm_19 rfl (by omega) (fun v1242 ev1242 lv1242 uv1242 => ?_)
                        have zkv1242 : v1242.toInt.toNat = odM A1195 v1227.toInt.toNat := by rw [ev1242]; exact od_g (od_cg2 xq1233 xq1234 odG1196) (by omega)
                        refine g_iaload hIH1228 sm_18 rfl (by omega) (fun v1243 ev1243 lv1243 uv1243 => ?_)
                        have hzv1243 : v1243.toInt = (aZ A1195 18 v1242.toInt.toNat).toInt := by rw [ev1243, xq1231]
                        have hvv1243 : v1243.toInt = hqM A1195 v1227.toInt.toNat := by show _ = (aZ _ 18 (odM _ _)).toInt; rw [hzv1243, zkv1242]
                        refine g_istore (l' := [(0, .ref 0), (1, .int a1), (2, .int a2), (3, .int a3), (4, .int a4), (5, .int v1227), (6, .int v1243)]) rfl rfl ?_
                        refine g_iload rfl ?_
                        refine g_iload_n rfl ?_
                        refine g_if2_le (fun c1244 => ?_) (fun c1244 => ?_)
                        · refine g_iinc (l' := (fun v1245 => [(0, .ref 0), (1, .int a1), (2, .int a2), (3, .int a3), (4, .int a4), (5, .int v1245), (6, .int v1243)])) rfl rfl (by decide) (by omega) (fun _ => rfl) (fun v1245 ev1245 => ?_)
                          refine g_goto ?_
                          refine gG_pick [0, 1, 2, 3, 4, 5] (l' := [(0, .ref 0), (1, .int a1), (2, .int a2), (3, .int a3), (4, .int a4), (5, .int v1245)]) rfl ?_
                          exact ihL1235 v1245 H1228 hIH1228 hJH1228 e1229 m1230 (by omega) xq1231 xq1232 xq1233 xq1234 (by rw [show v1245.toInt.toNat = v1227.toInt.toNat + 1 by omega, ix_no stp1197 (by omega) (by omega)]; exact q5) (by rw [show v1245.toInt.toNat = v1227.toInt.toNat + 1 by omega, ix_no stp1197 (by omega) (by omega)]; exact q6) (by omega) (by omega)
                        · refine g_iload rfl ?_
                          refine g_iload_n rfl ?_
                          refine g_if2_le (fun c1246 => ?_) (fun c1246 => ?_)
                          · have ek : (ixF (hqM A1195) a3.toInt p1197 v1227.toInt.toNat) = v1227.toInt.toNat := ix_in stp1197 (by omega) (by omega) (by omega)
                            have ek0 := (ix_b (hr := hqM A1195) (b := a3.toInt) (stp1197).1 v1227.toInt.toNat (by omega)).1
                            rw [ek] at q5 q6 ek0
                            refine g_aload_n rfl ?_
                            refine g_aload_n rfl ?_
                            refine g_gfr hIH1228 sm_0 rfl ?_
                            refine g_iload rfl ?_
                            refine g_ialoadk hIH1228 sm_19 rfl (by omega) ev1242 ?_
                            refine g_invvv hIH1228 sm_0 rfl rfl rfl rfl (r_192 v1242 (by omega) H1228 hIH1228 hJH1228 q5 (gmA1195.2 G1196 clG1196 v1227.toInt.toNat (by omega)).1 (gmA1195.2 G1196 clG1196 v1227.toInt.toNat (by omega)).2 (by rw [xq1231, zkv1242]; exact gmA1195.1 v1227.toInt.toNat (by omega)) (bt_of hIH1228 q5)) (fun H1247 r1248 => ?_)
                            obtain ⟨hIH1247, hJH1247, m1249, m1250, m1251, m1252, m1253, m1254, m1255, m1256, m1257, m1258, p1259, p1260, p1261⟩ := r1248
                            have e1262 : k0_2 = fZ H1247 0 2 := e1229.trans (m1249 0 2).symm
                            have m1263 : kpM H H1247 := kpM_t m1230 m1253
                            have xm1264 : (∀ i, aZ H1247 18 i = aZ A1195 18 i) := fun i => (m1254 i : aZ H1247 18 i = aZ H1228 18 i).trans (xq1231 i)
                            have xm1265 : (∀ i, aZ H1247 2 i = aZ A1195 2 i) := fun i => (m1250 i : aZ H1247 2 i = aZ H1228 2 i).trans (xq1232 i)
                            have xm1266 : (∀ i, aZ H1247 19 i = aZ H1188 19 i) := fun i => (m1251 i : aZ H1247 19 i = aZ H1228 19 i).trans (xq1233 i)
                            have xm1267 : fZ H1247 0 34 = fZ H1188 0 34 := (m1249 0 34 : fZ H1247 0 34 = fZ H1228 0 34).trans xq1234
                            have xm1268 : (∀ i, aZ H1247 25 i = aZ H1228 25 i) := fun i => (m1258 i : aZ H1247 25 i = aZ H1228 25 i).trans ((fun _ => rfl) i)
                            have wzp1269 : rwX H1247 (fM A1195 G1196 (v1227.toInt.toNat + 1)).1 (fM A1195 G1196 (v1227.toInt.toNat + 1)).2 := fm_st (H := A1195) (kpM_d tA1195.1 m1230) xq1231 xq1232 p1259 zkv1242 (by omega) rfl
                            obtain ⟨dpp1269, lap1269⟩ := gmA1195.2 G1196 clG1196 (v1227.toInt.toNat + 1) (by omega)
                            refine g_aload_n rfl ?_
                            refine g_iload_n rfl ?_
                            refine g_invvv hIH1247 sm_0 rfl rfl rfl rfl (r_238 a1 (by omega) H1247 hIH1247 hJH1247 wzp1269 dpp1269) (fun H1270 r1271 => ?_)
                            obtain ⟨hIH1270, hJH1270, m1272, m1273, m1274, m1275, m1276, m1277, p1278, p1279⟩ := r1271
                            have e1280 : k0_2 = fZ H1270 0 2 := e1262.trans (m1272 0 2).symm
                            have m1281 : kpM H H1270 := kpM_t m1263 m1273
                            have xm1282 : (∀ i, aZ H1270 18 i = aZ A1195 18 i) := fun i => (m1276 i : aZ H1270 18 i = aZ H1247 18 i).trans (xm1264 i)
                            have xm1283 : (∀ i, aZ H1270 2 i = aZ A1195 2 i) := fun i => (m1274 i : aZ H1270 2 i = aZ H1247 2 i).trans (xm1265 i)
                            have xm1284 : (∀ i, aZ H1270 19 i = aZ H1188 19 i) := fun i => (m1277 i : aZ H1270 19 i = aZ H1247 19 i).trans (xm1266 i)
                            have xm1285 : fZ H1270 0 34 = fZ H1188 0 34 := (m1272 0 34 : fZ H1270 0 34 = fZ H1247 0 34).trans xm1267
                            have s251286 : ∀ x : Nat, x < 40 → ((aZ H1270 25 x).toInt = 1 ↔ (wiP (fun q => (fM A1195 G1196 q).1) a1.toInt p1197 (v1227.toInt.toNat + 1)) x) := fun x hx => by rw [p1279 x hx, xm1268 x, q6 x hx]; exact (wi_s (by omega)).symm
                            refine g_nop ?_
                            refine g_iinc (l' := (fun v1287 => [(0, .ref 0), (1, .int a1), (2, .int a2), (3, .int a3), (4, .int a4), (5, .int v1287), (6, .int v1243)])) rfl rfl (by decide) (by omega) (fun _ => rfl) (fun v1287 ev1287 => ?_)
                            refine g_goto ?_
                            refine gG_pick [0, 1, 2, 3, 4, 5] (l' := [(0, .ref 0), (1, .int a1), (2, .int a2), (3, .int a3), (4, .int a4), (5, .int v1287)]) rfl ?_
                            exact ihL1235 v1287 H1270 hIH1270 hJH1270 e1280 m1281 (by omega) xm1282 xm1283 xm1284 xm1285 (by rw [show v1287.toInt.toNat = v1227.toInt.toNat + 1 by omega, ix_s ⟨ek.symm, (by omega)⟩]; exact p1278) (by rw [show v1287.toInt.toNat = v1227.toInt.toNat + 1 by omega, ix_s ⟨ek.symm, (by omega)⟩]; exact s251286) (by omega) (by omega)
                          · refine g_goto ?_
                            refine g_iinc (l' := (fun v1288 => [(0, .ref 0), (1, .int a1), (2, .int a2), (3, .int a3), (4, .int a4), (5, .int v1288), (6, .int v1243)])) rfl rfl (by decide) (by omega) (fun _ => rfl) (fun v1288 ev1288 => ?_)
                            refine g_goto ?_
                            refine gG_pick [0, 1, 2, 3, 4, 5] (l' := [(0, .ref 0), (1, .int a1), (2, .int a2), (3, .int a3), (4, .int a4), (5, .int v1288)]) rfl ?_
                            exact ihL1235 v1288 H1228 hIH1228 hJH1228 e1229 m1230 (by omega) xq1231 xq1232 xq1233 xq1234 (by rw [show v1288.toInt.toNat = v1227.toInt.toNat + 1 by omega, ix_no stp1197 (by omega) (by omega)]; exact q5) (by rw [show v1288.toInt.toNat = v1227.toInt.toNat + 1 by omega, ix_no stp1197 (by omega) (by omega)]; exact q6) (by omega) (by omega)
                  exact L1235 _ v1226 H1210 hIH1210 hJH1210 e1220 m1221 (by omega) xm1222 xm1223 xm1224 xm1225 (by rw [show v1226.toInt.toNat = 0 by omega]; exact p1218) (by rw [show v1226.toInt.toNat = 0 by omega]; exact s25) (by omega) (Nat.lt_succ_self _)
                · refine g_aload_n rfl ?_
                  refine g_gfr hIH1200 sm_0 rfl ?_
                  refine g_iload rfl ?_
                  refine g_iconst (by decide) (fun v1289 kv1289 => ?_)
                  refine g_zastore hIH1200 sm_25 (by omega) (by omega) (fun H1290 eH1290 hIH1290 => ?_)
                  have hJH1290 : JM H1290 := JM_sA (by decide) eH1290 hJH1200
                  have e1291 : k0_2 = fZ H1290 0 2 := by rw [eH1290, fZ_sA]; exact e1201
                  have m1292 : kpM H H1290 := kpM_A m1202 eH1290 (by omega)
                  have wdH1290 : rwX H1290 (fM A1195 G1196 p1197).1 (fM A1195 G1196 p1197).2 := rw_o q5 eH1290 (by decide)
                  have xm1293 : (∀ i, aZ H1290 18 i = aZ A1195 18 i) := fun i => (by rw [eH1290, aZ_sA_nc (by decide)] : aZ H1290 18 i = aZ H1200 18 i).trans (xq1203 i)
                  have xm1294 : (∀ i, aZ H1290 2 i = aZ A1195 2 i) := fun i => (by rw [eH1290, aZ_sA_nc (by decide)] : aZ H1290 2 i = aZ H1200 2 i).trans (xq1204 i)
                  have xm1295 : (∀ i, aZ H1290 19 i = aZ H1188 19 i) := fun i => (by rw [eH1290, aZ_sA_nc (by decide)] : aZ H1290 19 i = aZ H1200 19 i).trans (xq1205 i)
                  have xm1296 : fZ H1290 0 34 = fZ H1188 0 34 := (by rw [eH1290, fZ_sA] : fZ H1290 0 34 = fZ H1200 0 34).trans xq1206
                  refine g_iinc (l' := (fun v1297 => [(0, .ref 0), (1, .int a1), (2, .int a2), (3, .int a3), (4, .int a4), (5, .int v1297)])) rfl rfl (by decide) (by omega) (fun _ => rfl) (fun v1297 ev1297 => ?_)
                  refine g_goto ?_
                  exact ihL1207 v1297 H1290 hIH1290 hJH1290 e1291 m1292 (by omega) xm1293 xm1294 xm1295 xm1296 wdH1290 (fun q hq => by rw [eH1290]; if e : v1199.toInt.toNat = q then (subst e; rw [aZ_sA_eq hIH1200 sm_25 (by omega), kv1289]) else (rw [aZ_sA_ne e]; exact q7 q (by omega))) (by omega)
            exact L1207 _ v1198 H1188 hIH1188 hJH1188 e1193 m1194 (by omega) hoA1195 (fun i => (m1194.1 2 (by decide) i).trans (tA1195.2.1 i).symm) (fun _ => rfl) rfl wdp1197 (fun q hq => absurd hq (by omega)) (Nat.lt_succ_self _)
          · refine g_nop ?_
            refine g_iconst (by decide) (fun v1298 kv1298 => ?_)
            exact g_iret ⟨_, rfl, hIH1164, hJH1164, (e1165.symm.trans ek0_2), m1166, (Or.inl ⟨by omega, by omega⟩)⟩
