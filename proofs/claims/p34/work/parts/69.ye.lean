/-- nothing told -/
def pB0 : pB := pBm 0 0 0 10 10 0 (fun _ => 0) (fun _ => 0) (fun _ => 0) (fun _ => 0) (fun _ => 0) (fun _ => 0)
theorem bk_0m {H : mzH} {c : pB} (e : c = pB0) (h0 : (aZ H 3 0).toInt = 0) (h1 : (aZ H 3 1).toInt = 0) (h2 : (aZ H 3 2).toInt = 0) (h3 : (aZ H 3 3).toInt = 10) (h4 : (aZ H 3 4).toInt = 10) (h5 : (fZ H 0 17).toInt = 0) : bkM H c := by
  subst e
  refine ⟨h0, h1, h2, h3, h4, h5, fun p hp => ?_, fun k hk => ?_, ?_⟩
  · have hp : (p : Int) < 0 := hp
    omega
  · have hk : (k : Int) < 0 := hk
    omega
  · show (0 : Int) ≤ 0 ∧ (0 : Int) ≤ 12
    decide
set_option maxRecDepth 4000 in
set_option maxHeartbeats 4000000 in
/-- M.text -/
theorem e_175a (a1 : Int32) (H : mzH) (hI : gI SM H) (hJ : JN H) (hp0 : ¬ (0 ≤ a1.toInt ∧ a1.toInt ≤ (fZ H 0 2).toInt)) : gCall 175 [.ref 0, .int a1] H (gRi (fun v H' => gI SM H' ∧ JN H' ∧ kpM H H' ∧ v.toInt = -2)) := by
  obtain ⟨k0_2, ek0_2⟩ : ∃ z, z = fZ H 0 2 := ⟨_, rfl⟩
  have ik0_2 : k0_2.toInt = (fZ H 0 2).toInt := by rw [← ek0_2]
  have bk0_2 : 0 ≤ k0_2.toInt ∧ k0_2.toInt ≤ 900 := by rw [ek0_2]; exact fZ_of hI sm_0 rfl
  have mkfr : kpM H H := kpM_r
  refine gG_call [(0, .ref 0), (1, .int a1)] ⟨rfl, rfl, trivial⟩ ?_
  show gG 2 zB_175 (mzBlk zB_175 0) [(0, .ref 0), (1, .int a1)] [] H 0 0 _
  refine g_aload_n rfl ?_
  refine g_iconst (by decide) (fun v33 kv33 => ?_)
  refine g_pfi hI sm_0 rfl (gz_any _) (fun H34 eH34 hIH34 => ?_)
  have hJH34 : JN H34 := JN_sF eH34 hJ
  have e35 : k0_2 = fZ H34 0 2 := by rw [eH34, fZ_sF_ne (by decide)]; exact ek0_2
  have m36 : kpM H H34 := kpM_F mkfr eH34 (by first | with_reducible assumption | omega)
  have ie35 : k0_2.toInt = (fZ H34 0 2).toInt := by rw [← e35]
  refine g_iload_n rfl ?_
  refine g_if_lt (fun c37 => ?_) (fun c37 => ?_)
  · refine g_bipush (by decide) (fun v38 kv38 => ?_)
    exact g_iret ⟨_, rfl, hIH34, hJH34, m36, (by first | with_reducible assumption | omega)⟩
  · refine g_iload_n rfl ?_
    refine g_aload_n rfl ?_
    refine g_gfk hIH34 sm_0 rfl e35 ?_
    refine g_if2_le (fun c39 => ?_) (fun c39 => ?_)
    · exfalso; omega
    · refine g_nop ?_
      refine g_bipush (by decide) (fun v40 kv40 => ?_)
      exact g_iret ⟨_, rfl, hIH34, hJH34, m36, (by first | with_reducible assumption | omega)⟩
set_option maxRecDepth 4000 in
set_option maxHeartbeats 4000000 in
/-- M.tell -/
theorem e_176a (a1 : Int32) (H : mzH) (hI : gI SM H) (hJ : JN H) (hp0 : ¬ (0 ≤ a1.toInt ∧ a1.toInt ≤ (fZ H 0 2).toInt)) : gCall 176 [.ref 0, .int a1] H (gRi (fun v H' => gI SM H' ∧ JN H' ∧ kpM H H' ∧ v.toInt = -2)) := by
  obtain ⟨k0_2, ek0_2⟩ : ∃ z, z = fZ H 0 2 := ⟨_, rfl⟩
  have ik0_2 : k0_2.toInt = (fZ H 0 2).toInt := by rw [← ek0_2]
  have bk0_2 : 0 ≤ k0_2.toInt ∧ k0_2.toInt ≤ 900 := by rw [ek0_2]; exact fZ_of hI sm_0 rfl
  have mkfr : kpM H H := kpM_r
  refine gG_call [(0, .ref 0), (1, .int a1)] ⟨rfl, rfl, trivial⟩ ?_
  show gG 3 zB_176 (mzBlk zB_176 0) [(0, .ref 0), (1, .int a1)] [] H 0 0 _
  refine g_aload_n rfl ?_
  refine g_iconst (by decide) (fun v33 kv33 => ?_)
  refine g_pfi hI sm_0 rfl (gz_any _) (fun H34 eH34 hIH34 => ?_)
  have hJH34 : JN H34 := JN_sF eH34 hJ
  have e35 : k0_2 = fZ H34 0 2 := by rw [eH34, fZ_sF_ne (by decide)]; exact ek0_2
  have m36 : kpM H H34 := kpM_F mkfr eH34 (by first | with_reducible assumption | omega)
  have ie35 : k0_2.toInt = (fZ H34 0 2).toInt := by rw [← e35]
  refine g_iload_n rfl ?_
  refine g_if_lt (fun c37 => ?_) (fun c37 => ?_)
  · refine g_bipush (by decide) (fun v38 kv38 => ?_)
    exact g_iret ⟨_, rfl, hIH34, hJH34, m36, (by first | with_reducible assumption | omega)⟩
  · refine g_iload_n rfl ?_
    refine g_aload_n rfl ?_
    refine g_gfk hIH34 sm_0 rfl e35 ?_
    refine g_if2_le (fun c39 => ?_) (fun c39 => ?_)
    · exfalso; omega
    · refine g_nop ?_
      refine g_bipush (by decide) (fun v40 kv40 => ?_)
      exact g_iret ⟨_, rfl, hIH34, hJH34, m36, (by first | with_reducible assumption | omega)⟩
