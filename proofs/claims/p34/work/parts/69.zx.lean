/-! QUESTIONS, THE CLASS -/
def wyB (H : mzH) : Prop := ∀ a b : Int, -2 ≤ wyX H a b ∧ wyX H a b ≤ 25344
def sooX (s : pS) (wy : Int → Int → Int) (n : Nat) (h to : Int) : Int := if whr s n < 0 then whr s n else if whr s n = to then h else if wy (whr s n) to = -2 then -2 else if s.la (tp s n) + wy (whr s n) to < h then h else s.la (tp s n) + wy (whr s n) to
set_option maxRecDepth 4000 in
set_option maxHeartbeats 4000000 in
/-- X9.isThing -/
theorem w_149  (a0 : Int32) (H : mzH) (hI : gI SX H) (hJ : JX H) : gCall 149 [.int a0] H (gRi (fun v H' => H = H' ∧ (0 ≤ v.toInt ∧ v.toInt ≤ 1) ∧ ((v.toInt = 1 ∧ (0 ≤ a0.toInt ∧ a0.toInt ≤ 39)) ∨ (v.toInt = 0 ∧ ¬ (0 ≤ a0.toInt ∧ a0.toInt ≤ 39))))) := by
  refine gG_call [(0, .int a0)] ⟨rfl, trivial⟩ ?_
  show gG 1 zB_149 (mzBlk zB_149 0) [(0, .int a0)] [] H 0 0 _
  refine g_iload_n rfl ?_
  refine g_if_lt (fun c25 => ?_) (fun c25 => ?_)
  · refine g_iconst (by decide) (fun v26 kv26 => ?_)
    refine g_nop ?_
    exact g_zret (by omega) ⟨_, rfl, rfl, (by omega), (by omega)⟩
  · refine g_iload_n rfl ?_
    refine g_bipush (by decide) (fun v27 kv27 => ?_)
    refine g_if2_ge (fun c28 => ?_) (fun c28 => ?_)
    · refine g_iconst (by decide) (fun v29 kv29 => ?_)
      refine g_nop ?_
      exact g_zret (by omega) ⟨_, rfl, rfl, (by omega), (by omega)⟩
    · refine g_iconst (by decide) (fun v30 kv30 => ?_)
      refine g_goto ?_
      exact g_zret (by omega) ⟨_, rfl, rfl, (by omega), (by omega)⟩
