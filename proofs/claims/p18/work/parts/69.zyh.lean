set_option maxRecDepth 4000 in
set_option maxHeartbeats 4000000 in
/-- M.refusedNow -/
theorem r_224 {A G : mzH} (H : mzH) (hI : gI SM H) (hJ : JN H) (hp0 : odI H A (aZ A 2 2).toInt.toNat) (hp1 : (∀ x : Nat, x < cnM A → (aZ H 20 (odM A x)).toInt = rvM A G x)) : gCall 224 [.ref 0] H (gRi (fun v H' => H = H' ∧ v.toInt = cnt (fun x => ¬ rvM A G x = 0) (cnM A))) := by
  refine gG_call [(0, .ref 0)] ⟨rfl, trivial⟩ ?_
  show gG 3 zB_224 (mzBlk zB_224 0) [(0, .ref 0)] [] H 0 0 _
  refine g_iconst (by decide) (fun v399 kv399 => ?_)
  refine g_istore_n (l' := [(0, .ref 0), (1, .int v399)]) rfl rfl ?_
  refine g_iconst (by decide) (fun v400 kv400 => ?_)
  refine g_istore_n (l' := [(0, .ref 0), (1, .int v399), (2, .int v400)]) rfl rfl ?_
  refine g_nop ?_
  have L403 : ∀ (N : Nat) (v401 : Int32) (v402 : Int32), (0 ≤ v402.toInt ∧ v402.toInt ≤ 60) → v401.toInt = cnt (fun x => ¬ rvM A G x = 0) v402.toInt.toNat → (0 ≤ v401.toInt ∧ v401.toInt ≤ v402.toInt) → (v402.toInt : Int) ≤ (cnM A : Int) → (60 - v402.toInt).toNat < N → gG 3 zB_224 (mzBlk zB_224 1) [(0, .ref 0), (1, .int v401), (2, .int v402)] [] H 0 0 (gRi (fun v H' => H = H' ∧ v.toInt = cnt (fun x => ¬ rvM A G x = 0) (cnM A))) := by
    intro N
    induction N with
    | zero => intro v401 v402 bv402 q1 q2 q3 hmL403; exact absurd hmL403 (Nat.not_lt_zero _)
    | succ N ihL403 =>
      intro v401 v402 bv402 q1 q2 q3 hmL403
      refine g_iload_n rfl ?_
      refine g_aload_n rfl ?_
      refine g_gfi hI sm_0 rfl (fun v404 ev404 lv404 uv404 => ?_)
      have zv404 : v404.toInt = (cnM A : Int) := by rw [ev404]; exact od_n hp0
      refine g_if2_ge (fun c405 => ?_) (fun c405 => ?_)
      · refine g_iload_n rfl ?_
        exact g_iret ⟨_, rfl, rfl, (by rw [show cnM A = v402.toInt.toNat by omega]; exact q1)⟩
      · refine g_iload_n rfl ?_
        refine g_aload_n rfl ?_
        refine g_gfr hI sm_0 rfl ?_
        refine g_aload_n rfl ?_
        refine g_gfr hI sm_0 rfl ?_
        refine g_iload_n rfl ?_
        refine g_iaload hI sm_19 rfl (by omega) (fun v406 ev406 lv406 uv406 => ?_)
        have zkv406 : v406.toInt.toNat = odM A v402.toInt.toNat := by rw [ev406]; exact od_g hp0 (by omega)
        refine g_iaload hI sm_20 rfl (by omega) (fun v407 ev407 lv407 uv407 => ?_)
        have yv407 : v407.toInt = rvM A G v402.toInt.toNat := by rw [ev407, zkv406]; exact hp1 _ (by omega)
        refine g_if_ne (fun c408 => ?_) (fun c408 => ?_)
        · refine g_iconst (by decide) (fun v409 kv409 => ?_)
          refine g_nop ?_
          refine g_iadd' (fun v410 ov410 => ?_)
          have sv410 : v410.toInt = v401.toInt + v409.toInt := gz_add_of ov410 (by omega)
          refine g_istore_n (l' := [(0, .ref 0), (1, .int v410), (2, .int v402)]) rfl rfl ?_
          refine g_iinc (l' := (fun v411 => [(0, .ref 0), (1, .int v410), (2, .int v411)])) rfl rfl (by decide) (by omega) (fun _ => rfl) (fun v411 ev411 => ?_)
          refine g_goto ?_
          exact ihL403 v410 v411 (by omega) (cn_y q1 (by omega) (by show ¬ rvM A G v402.toInt.toNat = 0; omega) (by omega)) (by omega) (by omega) (by omega)
        · refine g_iconst (by decide) (fun v412 kv412 => ?_)
          refine g_goto ?_
          refine g_iadd (by have := gz_any v401; omega) (fun v413 ev413 => ?_)
          refine g_istore_n (l' := [(0, .ref 0), (1, .int v413), (2, .int v402)]) rfl rfl ?_
          refine g_iinc (l' := (fun v414 => [(0, .ref 0), (1, .int v413), (2, .int v414)])) rfl rfl (by decide) (by omega) (fun _ => rfl) (fun v414 ev414 => ?_)
          refine g_goto ?_
          exact ihL403 v413 v414 (by omega) (cn_n q1 (by omega) (by show ¬ ¬ rvM A G v402.toInt.toNat = 0; omega) (by omega)) (by omega) (by omega) (by omega)
  exact L403 _ v399 v400 (by omega) (cn_0 (by omega) (by omega)) (by omega) (by omega) (Nat.lt_succ_self _)
