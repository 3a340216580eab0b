def mS (H : mzH) (x0 x1 x2 x3 x4 x5 x6 : Int32) : mzH := (sF (sF (sF (sF (sF (sF (sF H 0 8 x0) 0 9 x1) 0 10 x2) 0 11 x3) 0 12 x4) 0 13 x5) 0 14 x6)
theorem mS_s8 {H : mzH} {x0 x1 x2 x3 x4 x5 x6 : Int32} {w : Int32} (_ : gI SM H) : sF (mS H x0 x1 x2 x3 x4 x5 x6) 0 8 w = mS H w x1 x2 x3 x4 x5 x6 := by
  unfold mS
  rw [sF_comm (f := 14) (g := 8) (by decide), sF_comm (f := 13) (g := 8) (by decide), sF_comm (f := 12) (g := 8) (by decide), sF_comm (f := 11) (g := 8) (by decide), sF_comm (f := 10) (g := 8) (by decide), sF_comm (f := 9) (g := 8) (by decide), sF_same]
theorem mS_g8 {H : mzH} {x0 x1 x2 x3 x4 x5 x6 : Int32} (hI : gI SM H) : x0 = fZ (mS H x0 x1 x2 x3 x4 x5 x6) 0 8 := by
  unfold mS
  rw [fZ_sF_ne (f := 14) (g := 8) (by decide), fZ_sF_ne (f := 13) (g := 8) (by decide), fZ_sF_ne (f := 12) (g := 8) (by decide), fZ_sF_ne (f := 11) (g := 8) (by decide), fZ_sF_ne (f := 10) (g := 8) (by decide), fZ_sF_ne (f := 9) (g := 8) (by decide), fZ_sF_ob (ob_of hI sm_0 (n := 45) (by decide)) (by decide)]
theorem mS_s9 {H : mzH} {x0 x1 x2 x3 x4 x5 x6 : Int32} {w : Int32} (_ : gI SM H) : sF (mS H x0 x1 x2 x3 x4 x5 x6) 0 9 w = mS H x0 w x2 x3 x4 x5 x6 := by
  unfold mS
  rw [sF_comm (f := 14) (g := 9) (by decide), sF_comm (f := 13) (g := 9) (by decide), sF_comm (f := 12) (g := 9) (by decide), sF_comm (f := 11) (g := 9) (by decide), sF_comm (f := 10) (g := 9) (by decide), sF_same]
theorem mS_g9 {H : mzH} {x0 x1 x2 x3 x4 x5 x6 : Int32} (hI : gI SM H) : x1 = fZ (mS H x0 x1 x2 x3 x4 x5 x6) 0 9 := by
  unfold mS
  rw [fZ_sF_ne (f := 14) (g := 9) (by decide), fZ_sF_ne (f := 13) (g := 9) (by decide), fZ_sF_ne (f := 12) (g := 9) (by decide), fZ_sF_ne (f := 11) (g := 9) (by decide), fZ_sF_ne (f := 10) (g := 9) (by decide), fZ_sF_ob (ob_sF (ob_of hI sm_0 (n := 45) (by decide))) (by decide)]
theorem mS_s10 {H : mzH} {x0 x1 x2 x3 x4 x5 x6 : Int32} {w : Int32} (_ : gI SM H) : sF (mS H x0 x1 x2 x3 x4 x5 x6) 0 10 w = mS H x0 x1 w x3 x4 x5 x6 := by
  unfold mS
  rw [sF_comm (f := 14) (g := 10) (by decide), sF_comm (f := 13) (g := 10) (by decide), sF_comm (f := 12) (g := 10) (by decide), sF_comm (f := 11) (g := 10) (by decide), sF_same]
theorem mS_g10 {H : mzH} {x0 x1 x2 x3 x4 x5 x6 : Int32} (hI : gI SM H) : x2 = fZ (mS H x0 x1 x2 x3 x4 x5 x6) 0 10 := by
  unfold mS
  rw [fZ_sF_ne (f := 14) (g := 10) (by decide), fZ_sF_ne (f := 13) (g := 10) (by decide), fZ_sF_ne (f := 12) (g := 10) (by decide), fZ_sF_ne (f := 11) (g := 10) (by decide), fZ_sF_ob (ob_sF (ob_sF (ob_of hI sm_0 (n := 45) (by decide)))) (by decide)]
theorem mS_s11 {H : mzH} {x0 x1 x2 x3 x4 x5 x6 : Int32} {w : Int32} (_ : gI SM H) : sF (mS H x0 x1 x2 x3 x4 x5 x6) 0 11 w = mS H x0 x1 x2 w x4 x5 x6 := by
  unfold mS
  rw [sF_comm (f := 14) (g := 11) (by decide), sF_comm (f := 13) (g := 11) (by decide), sF_comm (f := 12) (g := 11) (by decide), sF_same]
theorem mS_g11 {H : mzH} {x0 x1 x2 x3 x4 x5 x6 : Int32} (hI : gI SM H) : x3 = fZ (mS H x0 x1 x2 x3 x4 x5 x6) 0 11 := by
  unfold mS
  rw [fZ_sF_ne (f := 14) (g := 11) (by decide), fZ_sF_ne (f := 13) (g := 11) (by decide), fZ_sF_ne (f := 12) (g := 11) (by decide), fZ_sF_ob (ob_sF (ob_sF (ob_sF (ob_of hI sm_0 (n := 45) (by decide))))) (by decide)]
theorem mS_s12 {H : mzH} {x0 x1 x2 x3 x4 x5 x6 : Int32} {w : Int32} (_ : gI SM H) : sF (mS H x0 x1 x2 x3 x4 x5 x6) 0 12 w = mS H x0 x1 x2 x3 w x5 x6 := by
  unfold mS
  rw [sF_comm (f := 14) (g := 12) (by decide), sF_comm (f := 13) (g := 12) (by decide), sF_same]
theorem mS_g12 {H : mzH} {x0 x1 x2 x3 x4 x5 x6 : Int32} (hI : gI SM H) : x4 = fZ (mS H x0 x1 x2 x3 x4 x5 x6) 0 12 := by
  unfold mS
  rw [fZ_sF_ne (f := 14) (g := 12) (by decide), fZ_sF_ne (f := 13) (g := 12) (by decide), fZ_sF_ob (ob_sF (ob_sF (ob_sF (ob_sF (ob_of hI sm_0 (n := 45) (by decide)))))) (by decide)]
theorem mS_s13 {H : mzH} {x0 x1 x2 x3 x4 x5 x6 : Int32} {w : Int32} (_ : gI SM H) : sF (mS H x0 x1 x2 x3 x4 x5 x6) 0 13 w = mS H x0 x1 x2 x3 x4 w x6 := by
  unfold mS
  rw [sF_comm (f := 14) (g := 13) (by decide), sF_same]
theorem mS_g13 {H : mzH} {x0 x1 x2 x3 x4 x5 x6 : Int32} (hI : gI SM H) : x5 = fZ (mS H x0 x1 x2 x3 x4 x5 x6) 0 13 := by
  unfold mS
  rw [fZ_sF_ne (f := 14) (g := 13) (by decide), fZ_sF_ob (ob_sF (ob_sF (ob_sF (ob_sF (ob_sF (ob_of hI sm_0 (n := 45) (by decide))))))) (by decide)]
theorem mS_s14 {H : mzH} {x0 x1 x2 x3 x4 x5 x6 : Int32} {w : Int32} (_ : gI SM H) : sF (mS H x0 x1 x2 x3 x4 x5 x6) 0 14 w = mS H x0 x1 x2 x3 x4 x5 w := by
  unfold mS
  rw [sF_same]
theorem mS_g14 {H : mzH} {x0 x1 x2 x3 x4 x5 x6 : Int32} (hI : gI SM H) : x6 = fZ (mS H x0 x1 x2 x3 x4 x5 x6) 0 14 := by
  unfold mS
  rw [fZ_sF_ob (ob_sF (ob_sF (ob_sF (ob_sF (ob_sF (ob_sF (ob_of hI sm_0 (n := 45) (by decide)))))))) (by decide)]
theorem mS_I {H : mzH} {x0 x1 x2 x3 x4 x5 x6 : Int32} (hI : gI SM H) (h0 : 0 ≤ x0.toInt ∧ x0.toInt ≤ 900) (h1 : 0 ≤ x1.toInt ∧ x1.toInt ≤ 900) (h2 : 0 ≤ x2.toInt ∧ x2.toInt ≤ 4) : gI SM (mS H x0 x1 x2 x3 x4 x5 x6) := (gI_sF (gI_sF (gI_sF (gI_sF (gI_sF (gI_sF (gI_sF hI sm_0 rfl h0) sm_0 rfl h1) sm_0 rfl h2) sm_0 rfl (gz_any _)) sm_0 rfl (gz_any _)) sm_0 rfl (gz_any _)) sm_0 rfl (gz_any _))
theorem mS_J {H : mzH} {x0 x1 x2 x3 x4 x5 x6 : Int32} (hJ : JN H) : JN (mS H x0 x1 x2 x3 x4 x5 x6) := (JN_sF rfl (JN_sF rfl (JN_sF rfl (JN_sF rfl (JN_sF rfl (JN_sF rfl (JN_sF rfl hJ)))))))
theorem mS_o {H : mzH} {x0 x1 x2 x3 x4 x5 x6 : Int32} {c f : Nat} (h : c ≠ 0 ∨ (f ≠ 8 ∧ f ≠ 9 ∧ f ≠ 10 ∧ f ≠ 11 ∧ f ≠ 12 ∧ f ≠ 13 ∧ f ≠ 14)) : fZ H c f = fZ (mS H x0 x1 x2 x3 x4 x5 x6) c f := by
  unfold mS
  rcases h with h | h
  · rw [fZ_sF_nc (Ne.symm h), fZ_sF_nc (Ne.symm h), fZ_sF_nc (Ne.symm h), fZ_sF_nc (Ne.symm h), fZ_sF_nc (Ne.symm h), fZ_sF_nc (Ne.symm h), fZ_sF_nc (Ne.symm h)]
  · if hc : c = 0 then
      subst hc
      rw [fZ_sF_ne (f := 14) (by omega), fZ_sF_ne (f := 13) (by omega), fZ_sF_ne (f := 12) (by omega), fZ_sF_ne (f := 11) (by omega), fZ_sF_ne (f := 10) (by omega), fZ_sF_ne (f := 9) (by omega), fZ_sF_ne (f := 8) (by omega)]
    else rw [fZ_sF_nc (Ne.symm hc), fZ_sF_nc (Ne.symm hc), fZ_sF_nc (Ne.symm hc), fZ_sF_nc (Ne.symm hc), fZ_sF_nc (Ne.symm hc), fZ_sF_nc (Ne.symm hc), fZ_sF_nc (Ne.symm hc)]
theorem mS_a {H : mzH} {x0 x1 x2 x3 x4 x5 x6 : Int32} {c i : Nat} : aZ (mS H x0 x1 x2 x3 x4 x5 x6) c i = aZ H c i := by
  unfold mS
  rw [aZ_sF, aZ_sF, aZ_sF, aZ_sF, aZ_sF, aZ_sF, aZ_sF]
theorem mS_cA {H : mzH} {x0 x1 x2 x3 x4 x5 x6 : Int32} {c i : Nat} {w : Int32} : sA (mS H x0 x1 x2 x3 x4 x5 x6) c i w = mS (sA H c i w) x0 x1 x2 x3 x4 x5 x6 := by
  unfold mS
  rw [sA_sF, sA_sF, sA_sF, sA_sF, sA_sF, sA_sF, sA_sF]
theorem mS_cF {H : mzH} {x0 x1 x2 x3 x4 x5 x6 : Int32} {c f : Nat} {w : Int32} (h : c ≠ 0 ∨ (f ≠ 8 ∧ f ≠ 9 ∧ f ≠ 10 ∧ f ≠ 11 ∧ f ≠ 12 ∧ f ≠ 13 ∧ f ≠ 14)) : sF (mS H x0 x1 x2 x3 x4 x5 x6) c f w = mS (sF H c f w) x0 x1 x2 x3 x4 x5 x6 := by
  unfold mS
  rcases h with h | h
  · rw [sF_cm2 (a := 0) (b := c) (f := 14) (Ne.symm h), sF_cm2 (a := 0) (b := c) (f := 13) (Ne.symm h), sF_cm2 (a := 0) (b := c) (f := 12) (Ne.symm h), sF_cm2 (a := 0) (b := c) (f := 11) (Ne.symm h), sF_cm2 (a := 0) (b := c) (f := 10) (Ne.symm h), sF_cm2 (a := 0) (b := c) (f := 9) (Ne.symm h), sF_cm2 (a := 0) (b := c) (f := 8) (Ne.symm h)]
  · if hc : c = 0 then
      subst hc
      rw [sF_comm (f := 14) (g := f) (by omega), sF_comm (f := 13) (g := f) (by omega), sF_comm (f := 12) (g := f) (by omega), sF_comm (f := 11) (g := f) (by omega), sF_comm (f := 10) (g := f) (by omega), sF_comm (f := 9) (g := f) (by omega), sF_comm (f := 8) (g := f) (by omega)]
    else rw [sF_cm2 (a := 0) (b := c) (f := 14) (Ne.symm hc), sF_cm2 (a := 0) (b := c) (f := 13) (Ne.symm hc), sF_cm2 (a := 0) (b := c) (f := 12) (Ne.symm hc), sF_cm2 (a := 0) (b := c) (f := 11) (Ne.symm hc), sF_cm2 (a := 0) (b := c) (f := 10) (Ne.symm hc), sF_cm2 (a := 0) (b := c) (f := 9) (Ne.symm hc), sF_cm2 (a := 0) (b := c) (f := 8) (Ne.symm hc)]
/-- the reference's bytes -/
def bM (H : mzH) (k : Nat) : Int := (aZ H 1 k).toInt
set_option maxRecDepth 4000 in
set_option maxHeartbeats 4000000 in
/-- M.here, exactly -/
theorem f_156 (H : mzH) (hI : gI SM H) (hJ : JN H) (x0 x1 x2 x3 x4 x5 x6 : Int32) (hx0 : 0 ≤ x0.toInt ∧ x0.toInt ≤ 900) (hx1 : 0 ≤ x1.toInt ∧ x1.toInt ≤ 900) (hx2 : 0 ≤ x2.toInt ∧ x2.toInt ≤ 4) : gCall 156 [.ref 0] (mS H x0 x1 x2 x3 x4 x5 x6) (gRi (fun v H' => H' = mS H x0 x1 x2 x3 x4 x5 x6 ∧ (-1 ≤ v.toInt ∧ v.toInt ≤ 255) ∧ ((v.toInt = -1 ∧ (fZ H 0 7).toInt ≤ x0.toInt) ∨ (x0.toInt < (fZ H 0 7).toInt ∧ v.toInt = bM H x0.toInt.toNat ∧ 0 ≤ v.toInt)))) := by
  have w0_7 : 0 ≤ (fZ H 0 7).toInt ∧ (fZ H 0 7).toInt ≤ 900 := fZ_of hI sm_0 rfl
  refine gG_call [(0, .ref 0)] ⟨rfl, trivial⟩ ?_
  show gG 1 zB_156 (mzBlk zB_156 0) [(0, .ref 0)] [] (mS H x0 x1 x2 x3 x4 x5 x6) 0 0 _
  refine g_aload_n rfl ?_
  refine g_gfk (mS_I hI (by omega) (by omega) (by omega)) sm_0 rfl (mS_g8 hI) ?_
  refine g_aload_n rfl ?_
  refine g_gfk (mS_I hI (by omega) (by omega) (by omega)) sm_0 rfl (mS_o (by decide)) ?_
  refine g_if2_ge (fun c13 => ?_) (fun c13 => ?_)
  · refine g_iconst (by decide) (fun v14 kv14 => ?_)
    refine g_nop ?_
    exact g_iret ⟨_, rfl, rfl, (by omega), (by omega)⟩
  · refine g_aload_n rfl ?_
    refine g_gfr (mS_I hI (by omega) (by omega) (by omega)) sm_0 rfl ?_
    refine g_aload_n rfl ?_
    refine g_gfk (mS_I hI (by omega) (by omega) (by omega)) sm_0 rfl (mS_g8 hI) ?_
    refine g_iaload (mS_I hI (by omega) (by omega) (by omega)) sm_1 rfl (by omega) (fun v15 ev15 lv15 uv15 => ?_)
    have dv15 : v15 = aZ H 1 x0.toInt.toNat := ev15.trans mS_a
    have tv15 : v15.toInt = (aZ H 1 x0.toInt.toNat).toInt := by rw [dv15]
    have sv15 : v15.toInt = bM H x0.toInt.toNat := tv15
    refine g_goto ?_
    exact g_iret ⟨_, rfl, rfl, (by omega), (by omega)⟩
set_option maxRecDepth 4000 in
set_option maxHeartbeats 4000000 in
/-- M.isSmall, exactly -/
theorem f_157 (a0 : Int32) (H : mzH) (hI : gI SM H) (hJ : JN H) (x0 x1 x2 x3 x4 x5 x6 : Int32) (hx0 : 0 ≤ x0.toInt ∧ x0.toInt ≤ 900) (hx1 : 0 ≤ x1.toInt ∧ x1.toInt ≤ 900) (hx2 : 0 ≤ x2.toInt ∧ x2.toInt ≤ 4) : gCall 157 [.int a0] (mS H x0 x1 x2 x3 x4 x5 x6) (gRi (fun v H' => H' = mS H x0 x1 x2 x3 x4 x5 x6 ∧ (0 ≤ v.toInt ∧ v.toInt ≤ 1) ∧ (¬ v.toInt = 0 ↔ (97 ≤ a0.toInt ∧ a0.toInt ≤ 122)))) := by
  refine gG_call [(0, .int a0)] ⟨rfl, trivial⟩ ?_
  show gG 1 zB_157 (mzBlk zB_157 0) [(0, .int a0)] [] (mS H x0 x1 x2 x3 x4 x5 x6) 0 0 _
  refine g_iload_n rfl ?_
  refine g_bipush (by decide) (fun v29 kv29 => ?_)
  refine g_if2_lt (fun c30 => ?_) (fun c30 => ?_)
  · refine g_iconst (by decide) (fun v31 kv31 => ?_)
    refine g_nop ?_
    exact g_zret (by omega) ⟨_, rfl, rfl, (by omega), (by omega)⟩
  · refine g_iload_n rfl ?_
    refine g_bipush (by decide) (fun v32 kv32 => ?_)
    refine g_if2_gt (fun c33 => ?_) (fun c33 => ?_)
    · refine g_iconst (by decide) (fun v34 kv34 => ?_)
      refine g_nop ?_
      exact g_zret (by omega) ⟨_, rfl, rfl, (by omega), (by omega)⟩
    · refine g_iconst (by decide) (fun v35 kv35 => ?_)
      refine g_goto ?_
      exact g_zret (by omega) ⟨_, rfl, rfl, (by omega), (by omega)⟩
set_option maxRecDepth 4000 in
set_option maxHeartbeats 4000000 in
/-- M.isDigit, exactly -/
theorem f_158 (a0 : Int32) (H : mzH) (hI : gI SM H) (hJ : JN H) (x0 x1 x2 x3 x4 x5 x6 : Int32) (hx0 : 0 ≤ x0.toInt ∧ x0.toInt ≤ 900) (hx1 : 0 ≤ x1.toInt ∧ x1.toInt ≤ 900) (hx2 : 0 ≤ x2.toInt ∧ x2.toInt ≤ 4) : gCall 158 [.int a0] (mS H x0 x1 x2 x3 x4 x5 x6) (gRi (fun v H' => H' = mS H x0 x1 x2 x3 x4 x5 x6 ∧ (0 ≤ v.toInt ∧ v.toInt ≤ 1) ∧ (¬ v.toInt = 0 ↔ (48 ≤ a0.toInt ∧ a0.toInt ≤ 57)))) := by
  refine gG_call [(0, .int a0)] ⟨rfl, trivial⟩ ?_
  show gG 1 zB_158 (mzBlk zB_158 0) [(0, .int a0)] [] (mS H x0 x1 x2 x3 x4 x5 x6) 0 0 _
  refine g_iload_n rfl ?_
  refine g_bipush (by decide) (fun v29 kv29 => ?_)
  refine g_if2_lt (fun c30 => ?_) (fun c30 => ?_)
  · refine g_iconst (by decide) (fun v31 kv31 => ?_)
    refine g_nop ?_
    exact g_zret (by omega) ⟨_, rfl, rfl, (by omega), (by omega)⟩
  · refine g_iload_n rfl ?_
    refine g_bipush (by decide) (fun v32 kv32 => ?_)
    refine g_if2_gt (fun c33 => ?_) (fun c33 => ?_)
    · refine g_iconst (by decide) (fun v34 kv34 => ?_)
      refine g_nop ?_
      exact g_zret (by omega) ⟨_, rfl, rfl, (by omega), (by omega)⟩
    · refine g_iconst (by decide) (fun v35 kv35 => ?_)
      refine g_goto ?_
      exact g_zret (by omega) ⟨_, rfl, rfl, (by omega), (by omega)⟩
