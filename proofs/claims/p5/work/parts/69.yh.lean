set_option maxRecDepth 4000 in
set_option maxHeartbeats 4000000 in
/-- X9.fault -/
theorem e_117 (a1 : Int32) (H : mzH) (hI : gI SX H) (hJ : JX H) : gCall 117 [.ref 0, .int a1] H (gRi (fun v H' => H = H' ∧ ((a1.toInt = 0 ∧ v.toInt = (fZ H 19 5).toInt) ∨ (a1.toInt = 1 ∧ v.toInt = (fZ H 19 6).toInt) ∨ (¬ a1.toInt = 0 ∧ ¬ a1.toInt = 1 ∧ v.toInt = -1)))) := by
  obtain ⟨k19_5, ek19_5⟩ : ∃ z, z = fZ H 19 5 := ⟨_, rfl⟩
  have ik19_5 : k19_5.toInt = (fZ H 19 5).toInt := by rw [← ek19_5]
  obtain ⟨k19_6, ek19_6⟩ : ∃ z, z = fZ H 19 6 := ⟨_, rfl⟩
  have ik19_6 : k19_6.toInt = (fZ H 19 6).toInt := by rw [← ek19_6]
  refine gG_call [(0, .ref 0), (1, .int a1)] ⟨rfl, rfl, trivial⟩ ?_
  show gG 2 zB_117 (mzBlk zB_117 0) [(0, .ref 0), (1, .int a1)] [] H 0 0 _
  refine g_iload_n rfl ?_
  refine g_if_ne (fun c17 => ?_) (fun c17 => ?_)
  · refine g_iload_n rfl ?_
    refine g_iconst (by decide) (fun v18 kv18 => ?_)
    refine g_if2_ne (fun c19 => ?_) (fun c19 => ?_)
    · refine g_iconst (by decide) (fun v20 kv20 => ?_)
      refine g_nop ?_
      exact g_iret ⟨_, rfl, rfl, (by omega)⟩
    · refine g_aload_n rfl ?_
      refine g_gfr hI sx_0 rfl ?_
      refine g_gfk hI sx_19 rfl ek19_6 ?_
      refine g_goto ?_
      exact g_iret ⟨_, rfl, rfl, (by omega)⟩
  · refine g_aload_n rfl ?_
    refine g_gfr hI sx_0 rfl ?_
    refine g_gfk hI sx_19 rfl ek19_5 ?_
    exact g_iret ⟨_, rfl, rfl, (by omega)⟩
set_option maxRecDepth 4000 in
set_option maxHeartbeats 4000000 in
/-- M.fault -/
theorem e_177 (a1 : Int32) (H : mzH) (hI : gI SM H) (hJ : JN H) : gCall 177 [.ref 0, .int a1] H (gRi (fun v H' => gI SM H' ∧ JN H' ∧ fZ H' 0 2 = fZ H 0 2 ∧ kpM H H' ∧ ((a1.toInt = 0 ∧ v.toInt = (fZ H 0 15).toInt) ∨ (a1.toInt = 1 ∧ v.toInt = (fZ H 0 16).toInt) ∨ (¬ a1.toInt = 0 ∧ ¬ a1.toInt = 1 ∧ v.toInt = -1)))) := by
  obtain ⟨k0_2, ek0_2⟩ : ∃ z, z = fZ H 0 2 := ⟨_, rfl⟩
  have ik0_2 : k0_2.toInt = (fZ H 0 2).toInt := by rw [← ek0_2]
  have bk0_2 : 0 ≤ k0_2.toInt ∧ k0_2.toInt ≤ 900 := by rw [ek0_2]; exact fZ_of hI sm_0 rfl
  obtain ⟨k0_15, ek0_15⟩ : ∃ z, z = fZ H 0 15 := ⟨_, rfl⟩
  have ik0_15 : k0_15.toInt = (fZ H 0 15).toInt := by rw [← ek0_15]
  obtain ⟨k0_16, ek0_16⟩ : ∃ z, z = fZ H 0 16 := ⟨_, rfl⟩
  have ik0_16 : k0_16.toInt = (fZ H 0 16).toInt := by rw [← ek0_16]
  have mkfr : kpM H H := kpM_r
  refine gG_call [(0, .ref 0), (1, .int a1)] ⟨rfl, rfl, trivial⟩ ?_
  show gG 2 zB_177 (mzBlk zB_177 0) [(0, .ref 0), (1, .int a1)] [] H 0 0 _
  refine g_aload_n rfl ?_
  refine g_iconst (by decide) (fun v41 kv41 => ?_)
  refine g_pfi hI sm_0 rfl (gz_any _) (fun H42 eH42 hIH42 => ?_)
  have hJH42 : JN H42 := JN_sF eH42 hJ
  have e43 : k0_2 = fZ H42 0 2 := by rw [eH42, fZ_sF_ne (by decide)]; exact ek0_2
  have e44 : k0_15 = fZ H42 0 15 := by rw [eH42, fZ_sF_ne (by decide)]; exact ek0_15
  have e45 : k0_16 = fZ H42 0 16 := by rw [eH42, fZ_sF_ne (by decide)]; exact ek0_16
  have m46 : kpM H H42 := kpM_F mkfr eH42 (by omega)
  have ie44 : k0_15.toInt = (fZ H42 0 15).toInt := by rw [← e44]
  have ie45 : k0_16.toInt = (fZ H42 0 16).toInt := by rw [← e45]
  refine g_iload_n rfl ?_
  refine g_if_ne (fun c47 => ?_) (fun c47 => ?_)
  · refine g_iload_n rfl ?_
    refine g_iconst (by decide) (fun v48 kv48 => ?_)
    refine g_if2_ne (fun c49 => ?_) (fun c49 => ?_)
    · refine g_iconst (by decide) (fun v50 kv50 => ?_)
      refine g_nop ?_
      exact g_iret ⟨_, rfl, hIH42, hJH42, (e43.symm.trans ek0_2), m46, (by omega)⟩
    · refine g_aload_n rfl ?_
      refine g_gfk hIH42 sm_0 rfl e45 ?_
      refine g_goto ?_
      exact g_iret ⟨_, rfl, hIH42, hJH42, (e43.symm.trans ek0_2), m46, (by omega)⟩
  · refine g_aload_n rfl ?_
    refine g_gfk hIH42 sm_0 rfl e44 ?_
    refine g_goto ?_
    exact g_iret ⟨_, rfl, hIH42, hJH42, (e43.symm.trans ek0_2), m46, (by omega)⟩
