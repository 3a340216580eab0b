/-! THE REFERENCE RUNS ALL -/
theorem ra_all {A H2 : mzH} (hg : gdM A) (h : ∃ G : mzH, clR (rgM G) (mdM G) ∧ ∃ p : Nat, rwX H2 (fM A G p).1 (fM A G p).2 ∧ stM A 999 p ∧ (∀ x : Nat, x < p → (aZ H2 20 (odM A x)).toInt = rvM A G x) ∧ odI H2 A (aZ A 2 2).toInt.toNat) : ∃ G : mzH, clR (rgM G) (mdM G) ∧ rwX H2 (fM A G (cnM A)).1 (fM A G (cnM A)).2 ∧ (∀ x : Nat, x < cnM A → (aZ H2 20 (odM A x)).toInt = rvM A G x) ∧ odI H2 A (aZ A 2 2).toInt.toNat := by
  obtain ⟨G, h1, p, h2, h3, h4, h5⟩ := h
  obtain rfl := st_all hg h3
  exact ⟨G, h1, h2, h4, h5⟩
set_option maxRecDepth 4000 in
set_option maxHeartbeats 4000000 in
/-- M.runsAll -/
theorem r_199 (H : mzH) (hI : gI SM H) (hJ : JN H) (hp0 : ((∀ A, tkW H A → gdM A))) : gCall 199 [.ref 0] H (gRv (fun H' => gI SM H' ∧ JM H' ∧ fZ H' 0 2 = fZ H 0 2 ∧ fZ H' 0 0 = fZ H 0 0 ∧ fZ H' 0 41 = fZ H 0 41 ∧ fZ H' 0 42 = fZ H 0 42 ∧ fZ H' 0 43 = fZ H 0 43 ∧ (∀ i, aZ H' 2 i = aZ H 2 i) ∧ kpM H H' ∧ (∀ q : Nat, (q : Int) < (aZ H' 2 2).toInt → ∃ p : Nat, p < 60 ∧ (aZ H' 19 p).toInt = q) ∧ (∃ A : mzH, tkW H A ∧ ∃ G : mzH, clR (rgM G) (mdM G) ∧ rwX H' (fM A G (cnM A)).1 (fM A G (cnM A)).2 ∧ (∀ x : Nat, x < cnM A → (aZ H' 20 (odM A x)).toInt = rvM A G x) ∧ odI H' A (aZ A 2 2).toInt.toNat))) := by
  obtain ⟨k0_2, ek0_2⟩ : ∃ z, z = fZ H 0 2 := ⟨_, rfl⟩
  have ik0_2 : k0_2.toInt = (fZ H 0 2).toInt := by rw [← ek0_2]
  have bk0_2 : 0 ≤ k0_2.toInt ∧ k0_2.toInt ≤ 900 := by rw [ek0_2]; exact fZ_of hI sm_0 rfl
  obtain ⟨k0_0, ek0_0⟩ : ∃ z, z = fZ H 0 0 := ⟨_, rfl⟩
  have ik0_0 : k0_0.toInt = (fZ H 0 0).toInt := by rw [← ek0_0]
  obtain ⟨k0_41, ek0_41⟩ : ∃ z, z = fZ H 0 41 := ⟨_, rfl⟩
  have ik0_41 : k0_41.toInt = (fZ H 0 41).toInt := by rw [← ek0_41]
  obtain ⟨k0_42, ek0_42⟩ : ∃ z, z = fZ H 0 42 := ⟨_, rfl⟩
  have ik0_42 : k0_42.toInt = (fZ H 0 42).toInt := by rw [← ek0_42]
  obtain ⟨k0_43, ek0_43⟩ : ∃ z, z = fZ H 0 43 := ⟨_, rfl⟩
  have ik0_43 : k0_43.toInt = (fZ H 0 43).toInt := by rw [← ek0_43]
  have mk2 : ∀ i, aZ H 2 i = aZ H 2 i := fun _ => rfl
  have mkfr : kpM H H := kpM_r
  refine gG_call [(0, .ref 0)] ⟨rfl, trivial⟩ ?_
  show gG 1 zB_199 (mzBlk zB_199 0) [(0, .ref 0)] [] H 0 0 _
  refine g_aload_n rfl ?_
  refine g_invvv hI sm_0 rfl rfl rfl rfl (r_182 H hI hJ) (fun H161 r162 => ?_)
  obtain ⟨hIH161, hJH161, m163, m164, m165, m166, p167, p168⟩ := r162
  have e169 : k0_2 = fZ H161 0 2 := ek0_2.trans (m163 0 2).symm
  have e170 : k0_0 = fZ H161 0 0 := ek0_0.trans (m163 0 0).symm
  have e171 : k0_41 = fZ H161 0 41 := ek0_41.trans (m163 0 41).symm
  have e172 : k0_42 = fZ H161 0 42 := ek0_42.trans (m163 0 42).symm
  have e173 : k0_43 = fZ H161 0 43 := ek0_43.trans (m163 0 43).symm
  have m174 : ∀ i, aZ H161 2 i = aZ H 2 i := fun i => (m164 i).trans (mk2 i)
  have m175 : kpM H H161 := kpM_t mkfr m165
  have tH161 : tkW H H161 := tk_kp mkfr ⟨m165, m164, p168⟩
  have gmH161 := hp0 H161 tH161
  refine g_aload_n rfl ?_
  refine g_sipush (by decide) (fun v176 kv176 => ?_)
  refine g_invvv hIH161 sm_0 rfl rfl rfl rfl (r_198 v176 H161 hIH161 hJH161 (hp0 H161 ⟨m165, m164, p168⟩)) (fun H177 r178 => ?_)
  obtain ⟨hIH177, hJH177, w179, w180, w181, w182, w183, m184, m185, m186, m187, m188, p189, p190⟩ := r178
  have e191 : k0_2 = fZ H177 0 2 := e169.trans w179.symm
  have e192 : k0_0 = fZ H177 0 0 := e170.trans w180.symm
  have e193 : k0_41 = fZ H177 0 41 := e171.trans w181.symm
  have e194 : k0_42 = fZ H177 0 42 := e172.trans w182.symm
  have e195 : k0_43 = fZ H177 0 43 := e173.trans w183.symm
  have m196 : ∀ i, aZ H177 2 i = aZ H 2 i := fun i => (m184 i).trans (m174 i)
  have m197 : kpM H H177 := kpM_t m175 m186
  have xm198 : (∀ i, aZ H177 18 i = aZ H161 18 i) := fun i => (m187 i : aZ H177 18 i = aZ H161 18 i).trans ((fun _ => rfl) i)
  have xm199 : (∀ i, aZ H177 2 i = aZ H161 2 i) := fun i => (m184 i : aZ H177 2 i = aZ H161 2 i).trans ((fun _ => rfl) i)
  have xm200 : (∀ i, aZ H177 17 i = aZ H161 17 i) := fun i => (m185 i : aZ H177 17 i = aZ H161 17 i).trans ((fun _ => rfl) i)
  exact g_ret ⟨rfl, hIH177, hJH177, (e191.symm.trans ek0_2), (e192.symm.trans ek0_0), (e193.symm.trans ek0_41), (e194.symm.trans ek0_42), (e195.symm.trans ek0_43), m196, m197, (fun q hq => by obtain ⟨p, hp, e⟩ := p189 q hq (by rw [m185 q]; exact p167 q (by rw [← m184 2]; exact hq)); exact ⟨p, by omega, e⟩), ⟨H161, ⟨m165, m164, p168⟩, by have z := p190; rw [kv176] at z; exact ra_all (hp0 H161 ⟨m165, m164, p168⟩) z⟩⟩
