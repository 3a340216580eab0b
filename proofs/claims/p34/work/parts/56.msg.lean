set_option maxRecDepth 4000 in
set_option maxHeartbeats 4000000 in
/-- X9.message -/
theorem s_119 (a1 : Int32) (a2 : Int32) (ha2 : 0 ≤ a2.toInt ∧ a2.toInt ≤ 6) (H : mzH) (hI : gI SX H) (hJ : JX H) (hp0 : gCall 12 [.ref 3, .int a1] H (gRi (fun v H' => H = H' ∧ (1 ≤ v.toInt ∧ v.toInt ≤ 1) ∧ (0 ≤ a1.toInt ∧ a1.toInt ≤ 59)))) : gCall 119 [.ref 0, .int a1, .int a2] H (gRi (fun v H' => H = H')) := by
  refine gG_call [(0, .ref 0), (1, .int a1), (2, .int a2)] ⟨rfl, rfl, rfl, trivial⟩ ?_
  show gG 3 zB_119 (mzBlk zB_119 0) [(0, .ref 0), (1, .int a1), (2, .int a2)] [] H 0 0 _
  refine g_aload_n rfl ?_
  refine g_gfr hI sx_0 rfl ?_
  refine g_iload_n rfl ?_
  refine g_invvi hI sx_3 rfl rfl rfl rfl (hp0) (fun v83 H81 r82 => ?_)
  obtain ⟨rfl, bv83, p84⟩ := r82
  refine g_if_ne (fun c85 => ?_) (fun c85 => ?_)
  · refine g_iload_n rfl ?_
    refine g_sw (by decide) (fun c86 => ?_) ⟨fun c86 => ?_, fun c86 => ?_, fun c86 => ?_, fun c86 => ?_, fun c86 => ?_, fun c86 => ?_, fun c86 => ?_, trivial⟩
    · exfalso; omega
    · refine g_aload_n rfl ?_
      refine g_gfr hI sx_0 rfl ?_
      refine g_gfr hI sx_3 rfl ?_
      refine g_iload_n rfl ?_
      refine g_iaload hI sx_6 rfl (by first | with_reducible assumption | omega) (fun v87 ev87 lv87 uv87 => ?_)
      exact g_iret ⟨_, rfl, rfl⟩
    · refine g_aload_n rfl ?_
      refine g_gfr hI sx_0 rfl ?_
      refine g_gfr hI sx_3 rfl ?_
      refine g_iload_n rfl ?_
      refine g_iaload hI sx_7 rfl (by first | with_reducible assumption | omega) (fun v88 ev88 lv88 uv88 => ?_)
      exact g_iret ⟨_, rfl, rfl⟩
    · refine g_aload_n rfl ?_
      refine g_gfr hI sx_0 rfl ?_
      refine g_gfr hI sx_3 rfl ?_
      refine g_iload_n rfl ?_
      refine g_iaload hI sx_8 rfl (by first | with_reducible assumption | omega) (fun v89 ev89 lv89 uv89 => ?_)
      exact g_iret ⟨_, rfl, rfl⟩
    · refine g_aload_n rfl ?_
      refine g_gfr hI sx_0 rfl ?_
      refine g_gfr hI sx_3 rfl ?_
      refine g_iload_n rfl ?_
      refine g_iaload hI sx_9 rfl (by first | with_reducible assumption | omega) (fun v90 ev90 lv90 uv90 => ?_)
      exact g_iret ⟨_, rfl, rfl⟩
    · refine g_aload_n rfl ?_
      refine g_gfr hI sx_0 rfl ?_
      refine g_gfr hI sx_24 rfl ?_
      refine g_iload_n rfl ?_
      refine g_iaload hI sx_42 rfl (by first | with_reducible assumption | omega) (fun v91 ev91 lv91 uv91 => ?_)
      exact g_iret ⟨_, rfl, rfl⟩
    · refine g_aload_n rfl ?_
      refine g_gfr hI sx_0 rfl ?_
      refine g_gfr hI sx_24 rfl ?_
      refine g_iload_n rfl ?_
      refine g_invvi hI sx_25 rfl rfl rfl rfl (s_26 25 zCo_25 a1 H hI hJ) (fun v94 H92 r93 => ?_)
      obtain ⟨rfl, bv94⟩ := r93
      exact g_iret ⟨_, rfl, rfl⟩
    · refine g_aload_n rfl ?_
      refine g_gfr hI sx_0 rfl ?_
      refine g_iload_n rfl ?_
      refine g_invvi hI sx_3 rfl rfl rfl rfl (s_20 3 zBo_3 a1 (by first | with_reducible assumption | omega) H hI hJ) (fun v97 H95 r96 => ?_)
      obtain ⟨rfl, bv97⟩ := r96
      refine g_if_eq (fun c98 => ?_) (fun c98 => ?_)
      · refine g_iconst (by decide) (fun v99 kv99 => ?_)
        refine g_nop ?_
        exact g_iret ⟨_, rfl, rfl⟩
      · refine g_iconst (by decide) (fun v100 kv100 => ?_)
        refine g_goto ?_
        exact g_iret ⟨_, rfl, rfl⟩
  · exfalso; omega
