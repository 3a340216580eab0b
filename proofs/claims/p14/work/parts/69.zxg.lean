theorem gdY_kp {H A : mzH} (fr : kpX H A) (h : gdY H) : gdY A := by
  have e3 := fr 3 (by decide)
  have e25 := fr 25 (by decide)
  have e26 := fr 26 (by decide)
  have e27 := fr 27 (by decide)
  have e6 := fr 6 (by decide)
  have er : roX A = roX H ∨ True := Or.inr trivial
  obtain ⟨⟨h0, h00, h01⟩, h1, h2⟩ := h
  refine ⟨⟨by rw [e25.1]; exact h0, by rw [e25.1, e3.1]; exact h00, fun i => by rw [e26.2, e6.2]; exact h01 i⟩, fun q hq => ?_, fun j hj => ?_⟩
  · rw [e25.1] at hq ⊢
    unfold odX
    rw [e27.2]
    exact h1 q hq
  · rw [e25.1] at hj
    have k := h2 j hj
    have a1 : roX A j 1 = roX H j 1 := by show (aZ A 7 j).toInt = (aZ H 7 j).toInt; rw [(fr 7 (by decide)).2]
    have a2 : roX A j 2 = roX H j 2 := by show (aZ A 8 j).toInt = (aZ H 8 j).toInt; rw [(fr 8 (by decide)).2]
    have a3 : roX A j 3 = roX H j 3 := by show (aZ A 9 j).toInt = (aZ H 9 j).toInt; rw [(fr 9 (by decide)).2]
    have a4 : roX A j 4 = roX H j 4 := by show (aZ A 10 j).toInt = (aZ H 10 j).toInt; rw [(fr 10 (by decide)).2]
    have a5 : hoX A j = hoX H j := by show (aZ A 26 j).toInt = (aZ H 26 j).toInt; rw [e26.2]
    unfold rwO at k ⊢
    rw [a1, a2, a3, a4, a5]
    exact k
set_option maxRecDepth 4000 in
set_option maxHeartbeats 4000000 in
/-- X1.hasMessage -/
theorem w_12  (a1 : Int32) (H : mzH) (hI : gI SX H) (hJ : JX H) : gCall 12 [.ref 3, .int a1] H (gRi (fun v H' => H = H' ∧ (0 ≤ v.toInt ∧ v.toInt ≤ 1) ∧ ((v.toInt = 1 ∧ (0 ≤ a1.toInt ∧ a1.toInt < (fZ H 3 9).toInt)) ∨ (v.toInt = 0 ∧ ¬ (0 ≤ a1.toInt ∧ a1.toInt < (fZ H 3 9).toInt))) ∧ (v.toInt = 0 ∨ (0 ≤ a1.toInt ∧ a1.toInt ≤ 59)))) := by
  obtain ⟨k3_9, ek3_9⟩ : ∃ z, z = fZ H 3 9 := ⟨_, rfl⟩
  have ik3_9 : k3_9.toInt = (fZ H 3 9).toInt := by rw [← ek3_9]
  have bk3_9 : 0 ≤ k3_9.toInt ∧ k3_9.toInt ≤ 60 := by rw [ek3_9]; exact fZ_of hI sx_3 rfl
  refine gG_call [(0, .ref 3), (1, .int a1)] ⟨rfl, rfl, trivial⟩ ?_
  show gG 2 zB_12 (mzBlk zB_12 0) [(0, .ref 3), (1, .int a1)] [] H 0 0 _
  refine g_iload_n rfl ?_
  refine g_if_lt (fun c21 => ?_) (fun c21 => ?_)
  · refine g_iconst (by decide) (fun v22 kv22 => ?_)
    refine g_nop ?_
    exact g_zret (by omega) ⟨_, rfl, rfl, (by omega), (by omega), (by omega)⟩
  · refine g_iload_n rfl ?_
    refine g_aload_n rfl ?_
    refine g_gfk hI sx_3 rfl ek3_9 ?_
    refine g_if2_ge (fun c23 => ?_) (fun c23 => ?_)
    · refine g_iconst (by decide) (fun v24 kv24 => ?_)
      refine g_nop ?_
      exact g_zret (by omega) ⟨_, rfl, rfl, (by omega), (by omega), (by omega)⟩
    · refine g_iconst (by decide) (fun v25 kv25 => ?_)
      refine g_goto ?_
      exact g_zret (by omega) ⟨_, rfl, rfl, (by omega), (by omega), (by omega)⟩
