set_option maxRecDepth 4000 in
set_option maxHeartbeats 4000000 in
/-- M.fault -/
theorem s_177 (a1 : Int32) (H : mzH) (hI : gI SM H) (hJ : JN H) : gCall 177 [.ref 0, .int a1] H (gRi (fun v H' => gI SM H' ∧ JN H' ∧ fZ H' 0 2 = fZ H 0 2 ∧ kpM H H')) := by
  obtain ⟨k0_2, ek0_2⟩ : ∃ z, z = fZ H 0 2 := ⟨_, rfl⟩
  have ik0_2 : k0_2.toInt = (fZ H 0 2).toInt := by rw [← ek0_2]
  have bk0_2 : 0 ≤ k0_2.toInt ∧ k0_2.toInt ≤ 900 := by rw [ek0_2]; exact fZ_of hI sm_0 rfl
  have mkfr : kpM H H := kpM_r
  refine gG_call [(0, .ref 0), (1, .int a1)] ⟨rfl, rfl, trivial⟩ ?_
  show gG 2 zB_177 (mzBlk zB_177 0) [(0, .ref 0), (1, .int a1)] [] H 0 0 _
  refine g_aload_n rfl ?_
  refine g_iconst (by decide) (fun v41 kv41 => ?_)
  refine g_pfi hI sm_0 rfl (gz_any _) (fun H42 eH42 hIH42 => ?_)
  have hJH42 : JN H42 := JN_sF eH42 hJ
  have e43 : k0_2 = fZ H42 0 2 := by rw [eH42, fZ_sF_ne (by decide)]; exact ek0_2
  have m44 : kpM H H42 := kpM_F mkfr eH42 (by first | with_reducible assumption | omega)
  refine g_iload_n rfl ?_
  refine g_if_ne (fun c45 => ?_) (fun c45 => ?_)
  · refine g_iload_n rfl ?_
    refine g_iconst (by decide) (fun v46 kv46 => ?_)
    refine g_if2_ne (fun c47 => ?_) (fun c47 => ?_)
    · refine g_iconst (by decide) (fun v48 kv48 => ?_)
      refine g_nop ?_
      exact g_iret ⟨_, rfl, hIH42, hJH42, (e43.symm.trans ek0_2), m44⟩
    · refine g_aload_n rfl ?_
      refine g_gfi hIH42 sm_0 rfl (fun v49 ev49 lv49 uv49 => ?_)
      refine g_goto ?_
      exact g_iret ⟨_, rfl, hIH42, hJH42, (e43.symm.trans ek0_2), m44⟩
  · refine g_aload_n rfl ?_
    refine g_gfi hIH42 sm_0 rfl (fun v50 ev50 lv50 uv50 => ?_)
    refine g_goto ?_
    exact g_iret ⟨_, rfl, hIH42, hJH42, (e43.symm.trans ek0_2), m44⟩
set_option maxRecDepth 4000 in
set_option maxHeartbeats 4000000 in
/-- M.isPlace -/
theorem s_210 (a1 : Int32) (H : mzH) (hI : gI SM H) (hJ : JN H) : gCall 210 [.ref 0, .int a1] H (gRi (fun v H' => H = H' ∧ (0 ≤ v.toInt ∧ v.toInt ≤ 1) ∧ (v.toInt = 0 ∨ (0 ≤ a1.toInt ∧ a1.toInt ≤ 7)))) := by
  refine gG_call [(0, .ref 0), (1, .int a1)] ⟨rfl, rfl, trivial⟩ ?_
  show gG 2 zB_210 (mzBlk zB_210 0) [(0, .ref 0), (1, .int a1)] [] H 0 0 _
  refine g_iload_n rfl ?_
  refine g_if_lt (fun c29 => ?_) (fun c29 => ?_)
  · refine g_iconst (by decide) (fun v30 kv30 => ?_)
    refine g_nop ?_
    exact g_zret (by first | with_reducible assumption | omega) ⟨_, rfl, rfl, (by first | with_reducible assumption | omega), (by first | with_reducible assumption | omega)⟩
  · refine g_iload_n rfl ?_
    refine g_aload_n rfl ?_
    refine g_gfr hI sm_0 rfl ?_
    refine g_iconst (by decide) (fun v31 kv31 => ?_)
    refine g_iaload hI sm_2 rfl (by first | with_reducible assumption | omega) (fun v32 ev32 lv32 uv32 => ?_)
    have qv32 := JN_n20 hJ (v := v32) (by rw [ev32, show v31.toInt.toNat = 0 from by omega])
    refine g_if2_ge (fun c33 => ?_) (fun c33 => ?_)
    · refine g_iconst (by decide) (fun v34 kv34 => ?_)
      refine g_nop ?_
      exact g_zret (by first | with_reducible assumption | omega) ⟨_, rfl, rfl, (by first | with_reducible assumption | omega), (by first | with_reducible assumption | omega)⟩
    · refine g_iconst (by decide) (fun v35 kv35 => ?_)
      refine g_goto ?_
      exact g_zret (by first | with_reducible assumption | omega) ⟨_, rfl, rfl, (by first | with_reducible assumption | omega), (by first | with_reducible assumption | omega)⟩
