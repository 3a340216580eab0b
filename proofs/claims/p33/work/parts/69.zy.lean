/-! QUESTIONS, THE REFERENCE -/
theorem tk_kp {H B A : mzH} (k : kpM H B) (t : tkW B A) : tkW H A := by
  obtain ⟨t1, t2, t3⟩ := t
  refine ⟨kpM_t k t1, fun i => (t2 i).trans (k.1 2 (by decide) i), fun q hq => ?_⟩
  have := t3 q (by rw [k.1 2 (by decide)]; exact hq)
  rw [k.1 2 (by decide)] at this
  exact this
def sooM (r : pS) (md : Nat → Int) (wy : Int → Int → Int) (n : Nat) (h to : Int) : Int := if whM r md n < 0 then whM r md n else if whM r md n = to then h else if 100000 ≤ wy (whM r md n) to then -2 else if h < r.la (tp r n) + wy (whM r md n) to then r.la (tp r n) + wy (whM r md n) to else h
set_option maxRecDepth 4000 in
set_option maxHeartbeats 4000000 in
/-- M.isThing -/
theorem r_205 (a0 : Int32) (H : mzH) (hI : gI SM H) (hJ : JN H) : gCall 205 [.int a0] H (gRi (fun v H' => H = H' ∧ (0 ≤ v.toInt ∧ v.toInt ≤ 1) ∧ ((v.toInt = 1 ∧ (0 ≤ a0.toInt ∧ a0.toInt ≤ 39)) ∨ (v.toInt = 0 ∧ ¬ (0 ≤ a0.toInt ∧ a0.toInt ≤ 39))))) := by
  refine gG_call [(0, .int a0)] ⟨rfl, trivial⟩ ?_
  show gG 1 zB_205 (mzBlk zB_205 0) [(0, .int a0)] [] H 0 0 _
  refine g_iload_n rfl ?_
  refine g_if_lt (fun c25 => ?_) (fun c25 => ?_)
  · refine g_iconst (by decide) (fun v26 kv26 => ?_)
    refine g_nop ?_
    exact g_zret (by omega) ⟨_, rfl, rfl, (by omega), (by omega)⟩
  · refine g_iload_n rfl ?_
    refine g_bipush (by decide) (fun v27 kv27 => ?_)
    refine g_if2_ge (fun c28 => ?_) (fun c28 => ?_)
    · refine g_iconst (by decide) (fun v29 kv29 => ?_)
      refine g_nop ?_
      exact g_zret (by omega) ⟨_, rfl, rfl, (by omega), (by omega)⟩
    · refine g_iconst (by decide) (fun v30 kv30 => ?_)
      refine g_goto ?_
      exact g_zret (by omega) ⟨_, rfl, rfl, (by omega), (by omega)⟩
set_option maxRecDepth 4000 in
set_option maxHeartbeats 4000000 in
/-- M.whereIs -/
theorem r_201 {s : pS} {md : Nat → Int} (a1 : Int32) (ha1 : 0 ≤ a1.toInt ∧ a1.toInt ≤ 39) (H : mzH) (hI : gI SM H) (hJ : JM H) (hp0 : rwX H s md) (hp1 : dpt s) : gCall 201 [.ref 0, .int a1] H (gRi (fun v H' => H = H' ∧ (-4 ≤ v.toInt ∧ v.toInt ≤ 7) ∧ v.toInt = whM s md a1.toInt.toNat)) := by
  refine gG_call [(0, .ref 0), (1, .int a1)] ⟨rfl, rfl, trivial⟩ ?_
  show gG 3 zB_201 (mzBlk zB_201 0) [(0, .ref 0), (1, .int a1)] [] H 0 0 _
  refine g_aload_n rfl ?_
  refine g_gfr hI sm_0 rfl ?_
  refine g_iload_n rfl ?_
  refine g_baload hI sm_7 rfl (by omega) (fun v57 ev57 lv57 uv57 => ?_)
  have yv57 : v57.toInt = md a1.toInt.toNat := by rw [ev57]; exact (hp0 _ (by omega)).1
  refine g_if_ne (fun c58 => ?_) (fun c58 => ?_)
  · refine g_aload_n rfl ?_
    refine g_gfr hI sm_0 rfl ?_
    refine g_iload_n rfl ?_
    refine g_baload hI sm_16 rfl (by omega) (fun v59 ev59 lv59 uv59 => ?_)
    have yv59 : v59.toInt = (s).en a1.toInt.toNat := by rw [ev59]; exact (hp0 _ (by omega)).2.2.2.2.2.2.2.2.2
    refine g_if_eq (fun c60 => ?_) (fun c60 => ?_)
    · refine g_aload_n rfl ?_
      refine g_iload_n rfl ?_
      refine g_invvi hI sm_0 rfl rfl rfl rfl (r_185 a1 (by omega) H hI hJ hp0 hp1) (fun v63 H61 r62 => ?_)
      obtain ⟨rfl, bv63, p64⟩ := r62
      have tnv63 : v63.toInt.toNat = tp s a1.toInt.toNat := by omega
      refine g_istore_n (l' := [(0, .ref 0), (1, .int a1), (2, .int v63)]) rfl rfl ?_
      refine g_aload_n rfl ?_
      refine g_gfr hI sm_0 rfl ?_
      refine g_iload_n rfl ?_
      refine g_baload hI sm_15 rfl (by omega) (fun v65 ev65 lv65 uv65 => ?_)
      have yv65 : v65.toInt = (s).so v63.toInt.toNat := by rw [ev65]; exact (hp0 _ (by omega)).2.2.2.2.2.2.2.2.1
      rw [tnv63] at yv65
      refine g_if_eq (fun c66 => ?_) (fun c66 => ?_)
      · refine g_aload_n rfl ?_
        refine g_gfr hI sm_0 rfl ?_
        refine g_iload_n rfl ?_
        refine g_iaload hI sm_10 rfl (by omega) (fun v67 ev67 lv67 uv67 => ?_)
        have yv67 : v67.toInt = (s).pl v63.toInt.toNat := by rw [ev67]; exact (hp0 _ (by omega)).2.2.2.1
        rw [tnv63] at yv67
        refine g_nop ?_
        exact g_iret ⟨_, rfl, rfl, (by omega), (by unfold whM; first | (rw [if_pos (by omega)]; omega) | (rw [if_neg (by omega), if_pos (by omega)]; omega) | (rw [if_neg (by omega), if_neg (by omega), if_pos (by omega)]; omega) | (rw [if_neg (by omega), if_neg (by omega), if_neg (by omega)]; omega))⟩
      · refine g_bipush (by decide) (fun v68 kv68 => ?_)
        refine g_goto ?_
        exact g_iret ⟨_, rfl, rfl, (by omega), (by unfold whM; first | (rw [if_pos (by omega)]; omega) | (rw [if_neg (by omega), if_pos (by omega)]; omega) | (rw [if_neg (by omega), if_neg (by omega), if_pos (by omega)]; omega) | (rw [if_neg (by omega), if_neg (by omega), if_neg (by omega)]; omega))⟩
    · refine g_bipush (by decide) (fun v69 kv69 => ?_)
      exact g_iret ⟨_, rfl, rfl, (by omega), (by unfold whM; first | (rw [if_pos (by omega)]; omega) | (rw [if_neg (by omega), if_pos (by omega)]; omega) | (rw [if_neg (by omega), if_neg (by omega), if_pos (by omega)]; omega) | (rw [if_neg (by omega), if_neg (by omega), if_neg (by omega)]; omega))⟩
  · refine g_bipush (by decide) (fun v70 kv70 => ?_)
    exact g_iret ⟨_, rfl, rfl, (by omega), (by unfold whM; first | (rw [if_pos (by omega)]; omega) | (rw [if_neg (by omega), if_pos (by omega)]; omega) | (rw [if_neg (by omega), if_neg (by omega), if_pos (by omega)]; omega) | (rw [if_neg (by omega), if_neg (by omega), if_neg (by omega)]; omega))⟩
