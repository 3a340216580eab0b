/-! THE REFERENCE RUNS ALL -/
theorem ra_all {A H2 : mzH} (hg : gdM A) (h : ∃ G : mzH, clR (rgM G) (mdM G) ∧ ∃ p : Nat, rwX H2 (fM A G p).1 (fM A G p).2 ∧ stM A 999 p ∧ (∀ x : Nat, x < p → (aZ H2 20 (odM A x)).toInt = rvM A G x) ∧ odI H2 A (aZ A 2 2).toInt.toNat) : ∃ G : mzH, clR (rgM G) (mdM G) ∧ rwX H2 (fM A G (cnM A)).1 (fM A G (cnM A)).2 ∧ (∀ x : Nat, x < cnM A → (aZ H2 20 (odM A x)).toInt = rvM A G x) ∧ odI H2 A (aZ A 2 2).toInt.toNat := by
  obtain ⟨G, h1, p, h2, h3, h4, h5⟩ := h
  obtain rfl := st_all hg h3
  exact ⟨G, h1, h2, h4, h5⟩
set_option maxRecDepth 4000 in
set_option maxHeartbeats 4000000 in
/-- M.runsAll -/
theorem r_200 (H : mzH) (hI : gI SM H) (hJ : JN H) (hp0 : ((∀ A, tkW H A → gdM A))) : gCall 200 [.ref 0] H (gRv (fun H' => gI SM H' ∧ JM H' ∧ fZ H' 0 2 = fZ H 0 2 ∧ fZ H' 0 0 = fZ H 0 0 ∧ (∀ i, aZ H' 2 i = aZ H 2 i) ∧ kpM H H' ∧ (∀ q : Nat, (q : Int) < (aZ H' 2 2).toInt → ∃ p : Nat, p < 60 ∧ (aZ H' 19 p).toInt = q) ∧ (∃ A : mzH, tkW H A ∧ ∃ G : mzH, clR (rgM G) (mdM G) ∧ rwX H' (fM A G (cnM A)).1 (fM A G (cnM A)).2 ∧ (∀ x : Nat, x < cnM A → (aZ H' 20 (odM A x)).toInt = rvM A G x) ∧ odI H' A (aZ A 2 2).toInt.toNat))) := by
  obtain ⟨k0_2, ek0_2⟩ : ∃ z, z = fZ H 0 2 := ⟨_, rfl⟩
  have ik0_2 : k0_2.toInt = (fZ H 0 2).toInt := by rw [← ek0_2]
  have bk0_2 : 0 ≤ k0_2.toInt ∧ k0_2.toInt ≤ 900 := by rw [ek0_2]; exact fZ_of hI sm_0 rfl
  obtain ⟨k0_0, ek0_0⟩ : ∃ z, z = fZ H 0 0 := ⟨_, rfl⟩
  have ik0_0 : k0_0.toInt = (fZ H 0 0).toInt := by rw [← ek0_0]
  have mk2 : ∀ i, aZ H 2 i = aZ H 2 i := fun _ => rfl
  have mkfr : kpM H H := kpM_r
  refine gG_call [(0, .ref 0)] ⟨rfl, trivial⟩ ?_
  show gG 1 zB_200 (mzBlk zB_200 0) [(0, .ref 0)] [] H 0 0 _
  refine g_aload_n rfl ?_
  refine g_invvv hI sm_0 rfl rfl rfl rfl (r_183 H hI hJ) (fun H125 r126 => ?_)
  obtain ⟨hIH125, hJH125, m127, m128, m129, m130, p131, p132⟩ := r126
  have e133 : k0_2 = fZ H125 0 2 := ek0_2.trans (m127 0 2).symm
  have e134 : k0_0 = fZ H125 0 0 := ek0_0.trans (m127 0 0).symm
  have m135 : ∀ i, aZ H125 2 i = aZ H 2 i := fun i => (m128 i).trans (mk2 i)
  have m136 : kpM H H125 := kpM_t mkfr m129
  have tH125 : tkW H H125 := tk_kp mkfr ⟨m129, m128, p132⟩
  have gmH125 := hp0 H125 tH125
  refine g_aload_n rfl ?_
  refine g_sipush (by decide) (fun v137 kv137 => ?_)
  refine g_invvv hIH125 sm_0 rfl rfl rfl rfl (r_199 v137 H125 hIH125 hJH125 (hp0 H125 ⟨m129, m128, p132⟩)) (fun H138 r139 => ?_)
  obtain ⟨hIH138, hJH138, w140, w141, m142, m143, m144, m145, m146, p147, p148⟩ := r139
  have e149 : k0_2 = fZ H138 0 2 := e133.trans w140.symm
  have e150 : k0_0 = fZ H138 0 0 := e134.trans w141.symm
  have m151 : ∀ i, aZ H138 2 i = aZ H 2 i := fun i => (m142 i).trans (m135 i)
  have m152 : kpM H H138 := kpM_t m136 m144
  have xm153 : (∀ i, aZ H138 18 i = aZ H125 18 i) := fun i => (m145 i : aZ H138 18 i = aZ H125 18 i).trans ((fun _ => rfl) i)
  have xm154 : (∀ i, aZ H138 2 i = aZ H125 2 i) := fun i => (m142 i : aZ H138 2 i = aZ H125 2 i).trans ((fun _ => rfl) i)
  have xm155 : (∀ i, aZ H138 17 i = aZ H125 17 i) := fun i => (m143 i : aZ H138 17 i = aZ H125 17 i).trans ((fun _ => rfl) i)
  exact g_ret ⟨rfl, hIH138, hJH138, (e149.symm.trans ek0_2), (e150.symm.trans ek0_0), m151, m152, (fun q hq => by obtain ⟨p, hp, e⟩ := p147 q hq (by rw [m143 q]; exact p131 q (by rw [← m142 2]; exact hq)); exact ⟨p, by omega, e⟩), ⟨H125, ⟨m129, m128, p132⟩, by have z := p148; rw [kv137] at z; exact ra_all (hp0 H125 ⟨m129, m128, p132⟩) z⟩⟩
