set_option maxRecDepth 4000 in
set_option maxHeartbeats 4000000 in
/-- X9.isPlaceOrSold -/
theorem w_151  (a1 : Int32) (H : mzH) (hI : gI SX H) (hJ : JX H) : gCall 151 [.ref 0, .int a1] H (gRi (fun v H' => H = H' ∧ (0 ≤ v.toInt ∧ v.toInt ≤ 1) ∧ ((v.toInt = 1 ∧ (a1.toInt = -3 ∨ (0 ≤ a1.toInt ∧ a1.toInt < (fZ H 3 7).toInt))) ∨ (v.toInt = 0 ∧ ¬ (a1.toInt = -3 ∨ (0 ≤ a1.toInt ∧ a1.toInt < (fZ H 3 7).toInt)))))) := by
  refine gG_call [(0, .ref 0), (1, .int a1)] ⟨rfl, rfl, trivial⟩ ?_
  show gG 2 zB_151 (mzBlk zB_151 0) [(0, .ref 0), (1, .int a1)] [] H 0 0 _
  refine g_iload_n rfl ?_
  refine g_bipush (by decide) (fun v41 kv41 => ?_)
  refine g_if2_eq (fun c42 => ?_) (fun c42 => ?_)
  · refine g_iconst (by decide) (fun v43 kv43 => ?_)
    refine g_goto ?_
    exact g_zret (by omega) ⟨_, rfl, rfl, (by omega), (by omega)⟩
  · refine g_aload_n rfl ?_
    refine g_gfr hI sx_0 rfl ?_
    refine g_iload_n rfl ?_
    refine g_invvi hI sx_3 rfl rfl rfl rfl (w_11 a1 H hI hJ) (fun v46 H44 r45 => ?_)
    obtain ⟨rfl, bv46, p47⟩ := r45
    refine g_if_eq (fun c48 => ?_) (fun c48 => ?_)
    · refine g_iconst (by decide) (fun v49 kv49 => ?_)
      refine g_nop ?_
      exact g_zret (by omega) ⟨_, rfl, rfl, (by omega), (by omega)⟩
    · refine g_nop ?_
      refine g_iconst (by decide) (fun v50 kv50 => ?_)
      refine g_goto ?_
      exact g_zret (by omega) ⟨_, rfl, rfl, (by omega), (by omega)⟩
