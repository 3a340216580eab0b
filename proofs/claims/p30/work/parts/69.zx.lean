/-! QUESTIONS, THE CLASS -/
def wyB (H : mzH) : Prop := ∀ a b : Int, -2 ≤ wyX H a b ∧ wyX H a b ≤ 25344
def sooX (s : pS) (wy : Int → Int → Int) (n : Nat) (h to : Int) : Int := if whr s n < 0 then whr s n else if whr s n = to then h else if wy (whr s n) to = -2 then -2 else if s.la (tp s n) + wy (whr s n) to < h then h else s.la (tp s n) + wy (whr s n) to
set_option maxRecDepth 4000 in
set_option maxHeartbeats 4000000 in
/-- X9.isHour -/
theorem w_150  (a0 : Int32) (H : mzH) (hI : gI SX H) (hJ : JX H) : gCall 150 [.int a0] H (gRi (fun v H' => H = H' ∧ (0 ≤ v.toInt ∧ v.toInt ≤ 1) ∧ ((v.toInt = 1 ∧ (0 ≤ a0.toInt ∧ a0.toInt ≤ 999)) ∨ (v.toInt = 0 ∧ ¬ (0 ≤ a0.toInt ∧ a0.toInt ≤ 999))))) := by
  refine gG_call [(0, .int a0)] ⟨rfl, trivial⟩ ?_
  show gG 1 zB_150 (mzBlk zB_150 0) [(0, .int a0)] [] H 0 0 _
  refine g_iload_n rfl ?_
  refine g_if_lt (fun c25 => ?_) (fun c25 => ?_)
  · refine g_iconst (by decide) (fun v26 kv26 => ?_)
    refine g_nop ?_
    exact g_zret (by omega) ⟨_, rfl, rfl, (by omega), (by omega)⟩
  · refine g_iload_n rfl ?_
    refine g_sipush (by decide) (fun v27 kv27 => ?_)
    refine g_if2_gt (fun c28 => ?_) (fun c28 => ?_)
    · refine g_iconst (by decide) (fun v29 kv29 => ?_)
      refine g_nop ?_
      exact g_zret (by omega) ⟨_, rfl, rfl, (by omega), (by omega)⟩
    · refine g_iconst (by decide) (fun v30 kv30 => ?_)
      refine g_goto ?_
      exact g_zret (by omega) ⟨_, rfl, rfl, (by omega), (by omega)⟩
set_option maxRecDepth 4000 in
set_option maxHeartbeats 4000000 in
/-- X8.knownAt -/
theorem w_92 {s : pS} (w : Nat) (hw : zWo w) (a1 : Int32) (ha1 : 0 ≤ a1.toInt ∧ a1.toInt ≤ 39) (H : mzH) (hI : gI SX H) (hJ : JX H) (hp0 : wdX H w s) : gCall 92 [.ref w, .int a1] H (gRi (fun v H' => H = H' ∧ v.toInt = s.la (tp s a1.toInt.toNat))) := by
  obtain ⟨hwr, hw0, hw1, hw2, hw3, hw4, hw5, hw6⟩ := id hw
  refine gG_call [(0, .ref w), (1, .int a1)] ⟨rfl, rfl, trivial⟩ ?_
  show gG 2 zB_92 (mzBlk zB_92 0) [(0, .ref w), (1, .int a1)] [] H 0 0 _
  refine g_aload_n rfl ?_
  refine g_gfr hI hw0 rfl ?_
  refine g_aload_n rfl ?_
  refine g_iload_n rfl ?_
  refine g_invvi hI hw0 rfl rfl rfl rfl (w_89 w hw a1 (by omega) H hI hJ hp0) (fun v23 H21 r22 => ?_)
  obtain ⟨rfl, bv23, p24⟩ := r22
  have tnv23 : v23.toInt.toNat = tp s a1.toInt.toNat := by omega
  refine g_iaload hI hw4 rfl (by omega) (fun v25 ev25 lv25 uv25 => ?_)
  have yv25 : v25.toInt = (s).la v23.toInt.toNat := by rw [ev25]; exact (hp0 _ (by omega)).2.2.2.1
  rw [tnv23] at yv25
  exact g_iret ⟨_, rfl, rfl, (by omega)⟩
