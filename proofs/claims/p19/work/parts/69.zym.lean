/-! THE REFERENCE'S SETS -/
theorem rt_mk {H A H2 : mzH} {h : Int} (t : tkW H A) (r : ∃ G : mzH, clR (rgM G) (mdM G) ∧ ∃ p : Nat, rwX H2 (fM A G p).1 (fM A G p).2 ∧ stM A h p ∧ (∀ x : Nat, x < p → (aZ H2 20 (odM A x)).toInt = rvM A G x) ∧ odI H2 A (aZ A 2 2).toInt.toNat) (k : ∀ i, aZ H2 18 i = aZ A 18 i) : ∃ A : mzH, tkW H A ∧ ∃ G : mzH, clR (rgM G) (mdM G) ∧ ∃ p : Nat, rwX H2 (fM A G p).1 (fM A G p).2 ∧ stM A h p ∧ (∀ x : Nat, x < p → (aZ H2 20 (odM A x)).toInt = rvM A G x) ∧ odI H2 A (aZ A 2 2).toInt.toNat ∧ (∀ i, aZ H2 18 i = aZ A 18 i) := by
  obtain ⟨G, h1, p, h2, h3, h4, h5⟩ := r
  exact ⟨A, t, G, h1, p, h2, h3, h4, h5, k⟩
set_option maxRecDepth 4000 in
set_option maxHeartbeats 4000000 in
/-- M.runsTo -/
theorem rt_200 (a1 : Int32) (H : mzH) (hI : gI SM H) (hJ : JN H) (hp0 : (∀ A, tkW H A → gdM A)) : gCall 200 [.ref 0, .int a1] H (gRv (fun H' => gI SM H' ∧ JM H' ∧ fZ H' 0 2 = fZ H 0 2 ∧ kpM H H' ∧ (∃ A : mzH, tkW H A ∧ ∃ G : mzH, clR (rgM G) (mdM G) ∧ ∃ p : Nat, rwX H' (fM A G p).1 (fM A G p).2 ∧ stM A a1.toInt p ∧ (∀ x : Nat, x < p → (aZ H' 20 (odM A x)).toInt = rvM A G x) ∧ odI H' A (aZ A 2 2).toInt.toNat ∧ (∀ i, aZ H' 18 i = aZ A 18 i)))) := by
  obtain ⟨k0_2, ek0_2⟩ : ∃ z, z = fZ H 0 2 := ⟨_, rfl⟩
  have ik0_2 : k0_2.toInt = (fZ H 0 2).toInt := by rw [← ek0_2]
  have bk0_2 : 0 ≤ k0_2.toInt ∧ k0_2.toInt ≤ 900 := by rw [ek0_2]; exact fZ_of hI sm_0 rfl
  have mkfr : kpM H H := kpM_r
  refine gG_call [(0, .ref 0), (1, .int a1)] ⟨rfl, rfl, trivial⟩ ?_
  show gG 2 zB_200 (mzBlk zB_200 0) [(0, .ref 0), (1, .int a1)] [] H 0 0 _
  refine g_aload_n rfl ?_
  refine g_invvv hI sm_0 rfl rfl rfl rfl (r_182 H hI hJ) (fun H89 r90 => ?_)
  obtain ⟨hIH89, hJH89, m91, m92, m93, m94, p95, p96⟩ := r90
  have e97 : k0_2 = fZ H89 0 2 := ek0_2.trans (m91 0 2).symm
  have m98 : kpM H H89 := kpM_t mkfr m93
  refine g_aload_n rfl ?_
  refine g_iload_n rfl ?_
  refine g_invvv hIH89 sm_0 rfl rfl rfl rfl (r_198 a1 H89 hIH89 hJH89 (hp0 H89 ⟨m93, m92, p96⟩)) (fun H99 r100 => ?_)
  obtain ⟨hIH99, hJH99, w101, m102, m103, m104, m105, m106, p107, p108⟩ := r100
  have e109 : k0_2 = fZ H99 0 2 := e97.trans w101.symm
  have m110 : kpM H H99 := kpM_t m98 m104
  exact g_ret ⟨rfl, hIH99, hJH99, (e109.symm.trans ek0_2), m110, (rt_mk ⟨m93, m92, p96⟩ p108 m105)⟩
set_option maxRecDepth 4000 in
set_option maxHeartbeats 4000000 in
/-- M.pick -/
theorem r_236 (a1 : Int32) (H : mzH) (hI : gI SM H) (hJ : JN H) (hp0 : 0 ≤ a1.toInt) : gCall 236 [.ref 25, .int a1] H (gRi (fun v H' => H = H' ∧ v.toInt = pkF (fun x => (aZ H 25 x).toInt) 40 0 a1.toInt)) := by
  refine gG_call [(0, .ref 25), (1, .int a1)] ⟨rfl, rfl, trivial⟩ ?_
  show gG 4 zB_236 (mzBlk zB_236 0) [(0, .ref 25), (1, .int a1)] [] H 0 0 _
  refine g_iload_n rfl ?_
  refine g_istore_n (l' := [(0, .ref 25), (1, .int a1), (2, .int a1)]) rfl rfl ?_
  refine g_iconst (by decide) (fun v141 kv141 => ?_)
  refine g_istore_n (l' := [(0, .ref 25), (1, .int a1), (2, .int a1), (3, .int v141)]) rfl rfl ?_
  refine g_nop ?_
  have L144 : ∀ (N : Nat) (v142 : Int32) (v143 : Int32), (0 ≤ v142.toInt ∧ v142.toInt ≤ 2147483647) → (0 ≤ v143.toInt ∧ v143.toInt ≤ 40) → pkF (fun x => (aZ H 25 x).toInt) (40 - v143.toInt.toNat) v143.toInt.toNat v142.toInt = pkF (fun x => (aZ H 25 x).toInt) 40 0 a1.toInt → (0 ≤ v142.toInt) → (40 - v143.toInt).toNat < N → gG 4 zB_236 (mzBlk zB_236 1) [(0, .ref 25), (1, .int a1), (2, .int v142), (3, .int v143)] [] H 0 0 (gRi (fun v H' => H = H' ∧ v.toInt = pkF (fun x => (aZ H 25 x).toInt) 40 0 a1.toInt)) := by
    intro N
    induction N with
    | zero => intro v142 v143 bv142 bv143 q1 q3 hmL144; exact absurd hmL144 (Nat.not_lt_zero _)
    | succ N ihL144 =>
      intro v142 v143 bv142 bv143 q1 q3 hmL144
      refine g_iload_n rfl ?_
      refine g_bipush (by decide) (fun v145 kv145 => ?_)
      refine g_if2_ge (fun c146 => ?_) (fun c146 => ?_)
      · refine g_bipush (by decide) (fun v147 kv147 => ?_)
        exact g_iret ⟨_, rfl, rfl, (by rw [pk_e q1 (by omega)]; omega)⟩
      · refine g_aload_n rfl ?_
        refine g_iload_n rfl ?_
        refine g_baload hI sm_25 rfl (by omega) (fun v148 ev148 lv148 uv148 => ?_)
        have yv148 : v148.toInt = (aZ H 25 v143.toInt.toNat).toInt := by rw [ev148]
        refine g_if_ne (fun c149 => ?_) (fun c149 => ?_)
        · refine g_iload_n rfl ?_
          refine g_if_ne (fun c150 => ?_) (fun c150 => ?_)
          · refine g_iinc (l' := (fun v151 => [(0, .ref 25), (1, .int a1), (2, .int v151), (3, .int v143)])) rfl rfl (by decide) (by have := gz_any v142; omega) (fun _ => rfl) (fun v151 ev151 => ?_)
            refine g_nop ?_
            refine g_iinc (l' := (fun v152 => [(0, .ref 25), (1, .int a1), (2, .int v151), (3, .int v152)])) rfl rfl (by decide) (by omega) (fun _ => rfl) (fun v152 ev152 => ?_)
            refine g_goto ?_
            exact ihL144 v151 v152 (by have := gz_any v151; omega) (by omega) (pk_s q1 (by show (aZ H 25 v143.toInt.toNat).toInt = 1; omega) (by omega) (by omega) (by omega) (by omega)) (by omega) (by omega)
          · refine g_iload_n rfl ?_
            exact g_iret ⟨_, rfl, rfl, (by rw [← q1, pk_y (by show (aZ H 25 v143.toInt.toNat).toInt = 1; omega) (by omega) (by omega)]; omega)⟩
        · refine g_goto ?_
          refine g_iinc (l' := (fun v153 => [(0, .ref 25), (1, .int a1), (2, .int v142), (3, .int v153)])) rfl rfl (by decide) (by omega) (fun _ => rfl) (fun v153 ev153 => ?_)
          refine g_goto ?_
          exact ihL144 v142 v153 (by have := gz_any v142; omega) (by omega) (pk_n q1 (by show ¬ (aZ H 25 v143.toInt.toNat).toInt = 1; omega) (by omega) (by omega) (by omega)) (by omega) (by omega)
  exact L144 _ a1 v141 (by have := gz_any a1; omega) (by omega) (by rw [show (40 - v141.toInt.toNat) = 40 by omega, show v141.toInt.toNat = 0 by omega]) (by omega) (Nat.lt_succ_self _)
