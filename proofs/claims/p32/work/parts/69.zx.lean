/-! QUESTIONS, THE CLASS -/
def wyB (H : mzH) : Prop := ∀ a b : Int, -2 ≤ wyX H a b ∧ wyX H a b ≤ 25344
def sooX (s : pS) (wy : Int → Int → Int) (n : Nat) (h to : Int) : Int := if whr s n < 0 then whr s n else if whr s n = to then h else if wy (whr s n) to = -2 then -2 else if s.la (tp s n) + wy (whr s n) to < h then h else s.la (tp s n) + wy (whr s n) to
set_option maxRecDepth 4000 in
set_option maxHeartbeats 4000000 in
/-- X1.hasPlace -/
theorem w_11  (a1 : Int32) (H : mzH) (hI : gI SX H) (hJ : JX H) : gCall 11 [.ref 3, .int a1] H (gRi (fun v H' => H = H' ∧ (0 ≤ v.toInt ∧ v.toInt ≤ 1) ∧ ((v.toInt = 1 ∧ (0 ≤ a1.toInt ∧ a1.toInt < (fZ H 3 7).toInt)) ∨ (v.toInt = 0 ∧ ¬ (0 ≤ a1.toInt ∧ a1.toInt < (fZ H 3 7).toInt))))) := by
  obtain ⟨k3_7, ek3_7⟩ : ∃ z, z = fZ H 3 7 := ⟨_, rfl⟩
  have ik3_7 : k3_7.toInt = (fZ H 3 7).toInt := by rw [← ek3_7]
  have bk3_7 : 0 ≤ k3_7.toInt ∧ k3_7.toInt ≤ 8 := by rw [ek3_7]; exact fZ_of hI sx_3 rfl
  refine gG_call [(0, .ref 3), (1, .int a1)] ⟨rfl, rfl, trivial⟩ ?_
  show gG 2 zB_11 (mzBlk zB_11 0) [(0, .ref 3), (1, .int a1)] [] H 0 0 _
  refine g_iload_n rfl ?_
  refine g_if_lt (fun c21 => ?_) (fun c21 => ?_)
  · refine g_iconst (by decide) (fun v22 kv22 => ?_)
    refine g_nop ?_
    exact g_zret (by omega) ⟨_, rfl, rfl, (by omega), (by omega)⟩
  · refine g_iload_n rfl ?_
    refine g_aload_n rfl ?_
    refine g_gfk hI sx_3 rfl ek3_7 ?_
    refine g_if2_ge (fun c23 => ?_) (fun c23 => ?_)
    · refine g_iconst (by decide) (fun v24 kv24 => ?_)
      refine g_nop ?_
      exact g_zret (by omega) ⟨_, rfl, rfl, (by omega), (by omega)⟩
    · refine g_iconst (by decide) (fun v25 kv25 => ?_)
      refine g_goto ?_
      exact g_zret (by omega) ⟨_, rfl, rfl, (by omega), (by omega)⟩
