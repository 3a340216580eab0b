/-! QUESTIONS, THE REFERENCE -/
theorem tk_kp {H B A : mzH} (k : kpM H B) (t : tkW B A) : tkW H A := by
  obtain ⟨t1, t2, t3⟩ := t
  refine ⟨kpM_t k t1, fun i => (t2 i).trans (k.1 2 (by decide) i), fun q hq => ?_⟩
  have := t3 q (by rw [k.1 2 (by decide)]; exact hq)
  rw [k.1 2 (by decide)] at this
  exact this
def sooM (r : pS) (md : Nat → Int) (wy : Int → Int → Int) (n : Nat) (h to : Int) : Int := if whM r md n < 0 then whM r md n else if whM r md n = to then h else if 100000 ≤ wy (whM r md n) to then -2 else if h < r.la (tp r n) + wy (whM r md n) to then r.la (tp r n) + wy (whM r md n) to else h
set_option maxRecDepth 4000 in
set_option maxHeartbeats 4000000 in
/-- M.isThing -/
theorem r_205 (a0 : Int32) (H : mzH) (hI : gI SM H) (hJ : JN H) : gCall 205 [.int a0] H (gRi (fun v H' => H = H' ∧ (0 ≤ v.toInt ∧ v.toInt ≤ 1) ∧ ((v.toInt = 1 ∧ (0 ≤ a0.toInt ∧ a0.toInt ≤ 39)) ∨ (v.toInt = 0 ∧ ¬ (0 ≤ a0.toInt ∧ a0.toInt ≤ 39))))) := by
  refine gG_call [(0, .int a0)] ⟨rfl, trivial⟩ ?_
  show gG 1 zB_205 (mzBlk zB_205 0) [(0, .int a0)] [] H 0 0 _
  refine g_iload_n rfl ?_
  refine g_if_lt (fun c25 => ?_) (fun c25 => ?_)
  · refine g_iconst (by decide) (fun v26 kv26 => ?_)
    refine g_nop ?_
    exact g_zret (by omega) ⟨_, rfl, rfl, (by omega), (by omega)⟩
  · refine g_iload_n rfl ?_
    refine g_bipush (by decide) (fun v27 kv27 => ?_)
    refine g_if2_ge (fun c28 => ?_) (fun c28 => ?_)
    · refine g_iconst (by decide) (fun v29 kv29 => ?_)
      refine g_nop ?_
      exact g_zret (by omega) ⟨_, rfl, rfl, (by omega), (by omega)⟩
    · refine g_iconst (by decide) (fun v30 kv30 => ?_)
      refine g_goto ?_
      exact g_zret (by omega) ⟨_, rfl, rfl, (by omega), (by omega)⟩
