/-! THE REFERENCE RUNS ALL -/
theorem ra_all {A H2 : mzH} (hg : gdM A) (h : ∃ G : mzH, clR (rgM G) (mdM G) ∧ ∃ p : Nat, rwX H2 (fM A G p).1 (fM A G p).2 ∧ stM A 999 p ∧ (∀ x : Nat, x < p → (aZ H2 20 (odM A x)).toInt = rvM A G x) ∧ odI H2 A (aZ A 2 2).toInt.toNat) : ∃ G : mzH, clR (rgM G) (mdM G) ∧ rwX H2 (fM A G (cnM A)).1 (fM A G (cnM A)).2 ∧ (∀ x : Nat, x < cnM A → (aZ H2 20 (odM A x)).toInt = rvM A G x) ∧ odI H2 A (aZ A 2 2).toInt.toNat := by
  obtain ⟨G, h1, p, h2, h3, h4, h5⟩ := h
  obtain rfl := st_all hg h3
  exact ⟨G, h1, h2, h4, h5⟩
set_option maxRecDepth 4000 in
set_option maxHeartbeats 4000000 in
/-- M.runsAll -/
theorem r_199 (H : mzH) (hI : gI SM H) (hJ : JN H) (hp0 : ((∀ A, tkW H A → gdM A))) : gCall 199 [.ref 0] H (gRv (fun H' => gI SM H' ∧ JM H' ∧ fZ H' 0 2 = fZ H 0 2 ∧ (∀ i, aZ H' 2 i = aZ H 2 i) ∧ kpM H H' ∧ (∀ q : Nat, (q : Int) < (aZ H' 2 2).toInt → ∃ p : Nat, p < 60 ∧ (aZ H' 19 p).toInt = q) ∧ (∃ A : mzH, tkW H A ∧ ∃ G : mzH, clR (rgM G) (mdM G) ∧ rwX H' (fM A G (cnM A)).1 (fM A G (cnM A)).2 ∧ (∀ x : Nat, x < cnM A → (aZ H' 20 (odM A x)).toInt = rvM A G x) ∧ odI H' A (aZ A 2 2).toInt.toNat))) := by
  obtain ⟨k0_2, ek0_2⟩ : ∃ z, z = fZ H 0 2 := ⟨_, rfl⟩
  have ik0_2 : k0_2.toInt = (fZ H 0 2).toInt := by rw [← ek0_2]
  have bk0_2 : 0 ≤ k0_2.toInt ∧ k0_2.toInt ≤ 900 := by rw [ek0_2]; exact fZ_of hI sm_0 rfl
  have mk2 : ∀ i, aZ H 2 i = aZ H 2 i := fun _ => rfl
  have mkfr : kpM H H := kpM_r
  refine gG_call [(0, .ref 0)] ⟨rfl, trivial⟩ ?_
  show gG 1 zB_199 (mzBlk zB_199 0) [(0, .ref 0)] [] H 0 0 _
  refine g_aload_n rfl ?_
  refine g_invvv hI sm_0 rfl rfl rfl rfl (r_182 H hI hJ) (fun H113 r114 => ?_)
  obtain ⟨hIH113, hJH113, m115, m116, m117, m118, p119, p120⟩ := r114
  have e121 : k0_2 = fZ H113 0 2 := ek0_2.trans (m115 0 2).symm
  have m122 : ∀ i, aZ H113 2 i = aZ H 2 i := fun i => (m116 i).trans (mk2 i)
  have m123 : kpM H H113 := kpM_t mkfr m117
  have tH113 : tkW H H113 := tk_kp mkfr ⟨m117, m116, p120⟩
  have gmH113 := hp0 H113 tH113
  refine g_aload_n rfl ?_
  refine g_sipush (by decide) (fun v124 kv124 => ?_)
  refine g_invvv hIH113 sm_0 rfl rfl rfl rfl (r_198 v124 H113 hIH113 hJH113 (hp0 H113 ⟨m117, m116, p120⟩)) (fun H125 r126 => ?_)
  obtain ⟨hIH125, hJH125, w127, m128, m129, m130, m131, m132, p133, p134⟩ := r126
  have e135 : k0_2 = fZ H125 0 2 := e121.trans w127.symm
  have m136 : ∀ i, aZ H125 2 i = aZ H 2 i := fun i => (m128 i).trans (m122 i)
  have m137 : kpM H H125 := kpM_t m123 m130
  have xm138 : (∀ i, aZ H125 18 i = aZ H113 18 i) := fun i => (m131 i : aZ H125 18 i = aZ H113 18 i).trans ((fun _ => rfl) i)
  have xm139 : (∀ i, aZ H125 2 i = aZ H113 2 i) := fun i => (m128 i : aZ H125 2 i = aZ H113 2 i).trans ((fun _ => rfl) i)
  have xm140 : (∀ i, aZ H125 17 i = aZ H113 17 i) := fun i => (m129 i : aZ H125 17 i = aZ H113 17 i).trans ((fun _ => rfl) i)
  exact g_ret ⟨rfl, hIH125, hJH125, (e135.symm.trans ek0_2), m136, m137, (fun q hq => by obtain ⟨p, hp, e⟩ := p133 q hq (by rw [m129 q]; exact p119 q (by rw [← m128 2]; exact hq)); exact ⟨p, by omega, e⟩), ⟨H113, ⟨m117, m116, p120⟩, by have z := p134; rw [kv124] at z; exact ra_all (hp0 H113 ⟨m117, m116, p120⟩) z⟩⟩
