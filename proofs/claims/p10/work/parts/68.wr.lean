/-- but for the draft all is as it was -/
def frD (H B : mzH) : Prop := ∀ c, (c < 11 ∨ 18 < c) → B[c]? = H[c]?
def frW (H B : mzH) : Prop := ∀ c, c ≠ 13 → B[c]? = H[c]?
theorem frD_3 {H B1 B2 B3 : mzH} {i j : Nat} {w z u : Int32} (e1 : B1 = sA H 12 i w) (e2 : B2 = sA B1 13 j z) (e3 : B3 = sF B2 11 7 u) : frD H B3 := fun c h => by rw [e3, c_sF (by omega), e2, c_sA (by omega), e1, c_sA (by omega)]
theorem frW_1 {H B : mzH} {i : Nat} {w : Int32} (e : B = sA H 13 i w) : frW H B := fun c h => by rw [e, c_sA h]
theorem frD_r {H B1 B2 B3 : mzH} {u : Int32} (h1 : frW H B1) (h2 : frW B1 B2) (e : B3 = sF B2 11 8 u) : frD H B3 := fun c h => by rw [e, c_sF (by omega), h2 c (by omega), h1 c (by omega)]
def bPl (b : pB) (w : Int) : pB := pBm (b.P + 1) b.R b.N b.U b.C b.F (fun p => if (p : Int) = b.P then w else b.nm p) b.hr b.ac b.fi b.se b.ki
def bRd (b : pB) : pB := pBm b.P (b.R + 1) b.N b.U b.C b.F b.nm b.hr b.ac b.fi b.se b.ki
theorem apl_mk {H B1 B2 B3 : mzH} {b : pB} {i j w z u : Int32} (hI : gI SX H) (hI1 : gI SX B1) (hI2 : gI SX B2) (hb : bkX H 11 b) (e1 : B1 = sA H 12 i.toInt.toNat w) (e2 : B2 = sA B1 13 j.toInt.toNat z) (e3 : B3 = sF B2 11 7 u) (hi : i.toInt = b.P) (h8 : 0 ≤ b.P ∧ b.P < 8) (hu : u.toInt = b.P + 1) : bkX B3 11 (bPl b w.toInt) := by
  obtain ⟨h1, h2, h3, h4, h5, h6, h7, h9, h10⟩ := hb
  refine ⟨?_, ?_, ?_, ?_, ?_, ?_, fun p hp => ?_, fun k hk => ?_, h10⟩
  · rw [e3, fZ_sF_eq hI2 sx_11 rfl]
    exact hu
  · rw [e3, fZ_sF_ne (by decide), e2, fZ_sA, e1, fZ_sA]
    exact h2
  · rw [e3, fZ_sF_ne (by decide), e2, fZ_sA, e1, fZ_sA]
    exact h3
  · rw [e3, fZ_sF_ne (by decide), e2, fZ_sA, e1, fZ_sA]
    exact h4
  · rw [e3, fZ_sF_ne (by decide), e2, fZ_sA, e1, fZ_sA]
    exact h5
  · rw [e3, fZ_sF_ne (by decide), e2, fZ_sA, e1, fZ_sA]
    exact h6
  · rw [e3, aZ_sF, e2, aZ_sA_nc (by decide), e1, aZ_if hI sx_12 (by omega) (show _ = b.P.toNat by omega)]
    have hp : (p : Int) < b.P + 1 := hp
    show _ = if (p : Int) = b.P then w.toInt else b.nm p
    split
    · rw [if_pos (by omega)]
    · rw [if_neg (by omega)]
      exact h7 p (by omega)
  · rw [e3, aZ_sF, aZ_sF, aZ_sF, aZ_sF, aZ_sF, e2, aZ_sA_nc (by decide), aZ_sA_nc (by decide), aZ_sA_nc (by decide), aZ_sA_nc (by decide), aZ_sA_nc (by decide), e1, aZ_sA_nc (by decide), aZ_sA_nc (by decide), aZ_sA_nc (by decide), aZ_sA_nc (by decide), aZ_sA_nc (by decide)]
    exact h9 k hk
theorem ard_r {H B1 B2 : mzH} (h1 : frW H B1) (h2 : frW B1 B2) : (fZ B2 11 8).toInt = (fZ H 11 8).toInt := by rw [fZ_cg (h2 11 (by decide)), fZ_cg (h1 11 (by decide))]
theorem ard_mk {H B1 B2 B3 : mzH} {b : pB} {u : Int32} (hI2 : gI SX B2) (hb : bkX H 11 b) (f1 : frW H B1) (f2 : frW B1 B2) (e3 : B3 = sF B2 11 8 u) (hu : u.toInt = b.R + 1 ∧ b.R < 12) : bkX B3 11 (bRd b) := by
  obtain ⟨h1, h2, h3, h4, h5, h6, h7, h9, h10⟩ := hb
  have fr : ∀ c, c ≠ 13 → B2[c]? = H[c]? := fun c h => (f2 c h).trans (f1 c h)
  refine ⟨?_, ?_, ?_, ?_, ?_, ?_, fun p hp => ?_, fun k hk => ?_, ?_⟩
  · rw [e3, fZ_sF_ne (by decide), fZ_cg (fr 11 (by decide))]
    exact h1
  · rw [e3, fZ_sF_eq hI2 sx_11 rfl]
    exact hu.1
  · rw [e3, fZ_sF_ne (by decide), fZ_cg (fr 11 (by decide))]
    exact h3
  · rw [e3, fZ_sF_ne (by decide), fZ_cg (fr 11 (by decide))]
    exact h4
  · rw [e3, fZ_sF_ne (by decide), fZ_cg (fr 11 (by decide))]
    exact h5
  · rw [e3, fZ_sF_ne (by decide), fZ_cg (fr 11 (by decide))]
    exact h6
  · rw [e3, aZ_sF, aZ_cg (fr 12 (by decide))]
    exact h7 p hp
  · rw [e3, aZ_sF, aZ_sF, aZ_sF, aZ_sF, aZ_sF, aZ_cg (fr 14 (by decide)), aZ_cg (fr 15 (by decide)), aZ_cg (fr 16 (by decide)), aZ_cg (fr 17 (by decide)), aZ_cg (fr 18 (by decide))]
    exact h9 k hk
  · show 0 ≤ b.R + 1 ∧ b.R + 1 ≤ 12
    omega
set_option maxRecDepth 4000 in
set_option maxHeartbeats 4000000 in
/-- X1.addPlace, exactly -/
theorem f_14 (a1 : Int32) (H : mzH) (hI : gI SX H) (hJ : JX H) (x0 x1 x2 x3 x4 : Int32) (hx0 : 0 ≤ x0.toInt ∧ x0.toInt ≤ 900) {b : pB} (hp0 : bkX H 11 b) (hp1 : b.P < 8) : gCall 14 [.ref 11, .int a1] (rS H x0 x1 x2 x3 x4) (gRv (fun H' => ∃ B : mzH, H' = rS B x0 x1 x2 x3 x4 ∧ gI SX B ∧ JX B ∧ frD H B ∧ bkX B 11 (bPl b a1.toInt))) := by
  have w1 := hp0.1
  refine gG_call [(0, .ref 11), (1, .int a1)] ⟨rfl, rfl, trivial⟩ ?_
  show gG 2 zB_14 (mzBlk zB_14 0) [(0, .ref 11), (1, .int a1)] [] (rS H x0 x1 x2 x3 x4) 0 0 _
  refine g_aload_n rfl ?_
  refine g_gfi (rS_I hI (by omega)) sx_11 rfl (fun v77 ev77 lv77 uv77 => ?_)
  have iv77 : v77.toInt = (fZ H 11 7).toInt := by rw [ev77, ← rS_o (by decide)]
  refine g_bipush (by decide) (fun v78 kv78 => ?_)
  refine g_if2_ge (fun c79 => ?_) (fun c79 => ?_)
  · exact g_ret ⟨rfl, H, rfl, hI, hJ, (by exfalso; omega), (by exfalso; omega)⟩
  · refine g_aload_n rfl ?_
    refine g_gfr (rS_I hI (by omega)) sx_11 rfl ?_
    refine g_aload_n rfl ?_
    refine g_gfi (rS_I hI (by omega)) sx_11 rfl (fun v80 ev80 lv80 uv80 => ?_)
    have iv80 : v80.toInt = (fZ H 11 7).toInt := by rw [ev80, ← rS_o (by decide)]
    refine g_iload_n rfl ?_
    refine g_iastore (rS_I hI (by omega)) sx_12 (by omega) (gz_any _) (fun H81 eH81 hIH81 => ?_)
    obtain ⟨B82, eB82⟩ : ∃ z, z = sA H 12 v80.toInt.toNat a1 := ⟨_, rfl⟩
    obtain rfl : H81 = (rS B82 x0 x1 x2 x3 x4) := by rw [eH81, eB82]; exact rS_cA
    have hIB82 : gI SX B82 := by rw [eB82]; exact gI_sA hI sx_12 (gz_any _)
    have hJB82 : JX B82 := JX_sA (by decide) eB82 hJ
    have jB82_11_7 : (fZ B82 11 7).toInt = (fZ H 11 7).toInt := by rw [eB82, fZ_sA]
    refine g_aload_n rfl ?_
    refine g_gfr (rS_I hIB82 (by omega)) sx_11 rfl ?_
    refine g_aload_n rfl ?_
    refine g_gfi (rS_I hIB82 (by omega)) sx_11 rfl (fun v83 ev83 lv83 uv83 => ?_)
    have iv83 : v83.toInt = (fZ B82 11 7).toInt := by rw [ev83, ← rS_o (by decide)]
    refine g_bipush (by decide) (fun v84 kv84 => ?_)
    refine g_imulk (n := 8) kv84 (by omega) (fun v85 ev85 => ?_)
    refine g_aload_n rfl ?_
    refine g_gfi (rS_I hIB82 (by omega)) sx_11 rfl (fun v86 ev86 lv86 uv86 => ?_)
    have iv86 : v86.toInt = (fZ B82 11 7).toInt := by rw [ev86, ← rS_o (by decide)]
    refine g_iadd (by omega) (fun v87 ev87 => ?_)
    refine g_iconst (by decide) (fun v88 kv88 => ?_)
    refine g_iastore (rS_I hIB82 (by omega)) sx_13 (by omega) (gz_any _) (fun H89 eH89 hIH89 => ?_)
    obtain ⟨B90, eB90⟩ : ∃ z, z = sA B82 13 v87.toInt.toNat v88 := ⟨_, rfl⟩
    obtain rfl : H89 = (rS B90 x0 x1 x2 x3 x4) := by rw [eH89, eB90]; exact rS_cA
    have hIB90 : gI SX B90 := by rw [eB90]; exact gI_sA hIB82 sx_13 (gz_any _)
    have hJB90 : JX B90 := JX_sA (by decide) eB90 hJB82
    have jB90_11_7 : (fZ B90 11 7).toInt = (fZ B82 11 7).toInt := by rw [eB90, fZ_sA]
    refine g_aload_n rfl ?_
    refine g_dup rfl ?_
    refine g_gfi (rS_I hIB90 (by omega)) sx_11 rfl (fun v91 ev91 lv91 uv91 => ?_)
    have iv91 : v91.toInt = (fZ B90 11 7).toInt := by rw [ev91, ← rS_o (by decide)]
    refine g_iconst (by decide) (fun v92 kv92 => ?_)
    refine g_iadd (by omega) (fun v93 ev93 => ?_)
    refine g_pfi (rS_I hIB90 (by omega)) sx_11 rfl (by omega) (fun H94 eH94 hIH94 => ?_)
    obtain ⟨B95, eB95⟩ : ∃ z, z = sF B90 11 7 v93 := ⟨_, rfl⟩
    obtain rfl : H94 = (rS B95 x0 x1 x2 x3 x4) := by rw [eH94, eB95]; exact rS_cF (by decide)
    have hIB95 : gI SX B95 := by rw [eB95]; exact gI_sF hIB90 sx_11 rfl (by omega)
    have hJB95 : JX B95 := JX_sF eB95 hJB90
    have jB95_11_7 : (fZ B95 11 7).toInt = v93.toInt := by rw [eB95, fZ_sF_eq hIB90 sx_11 rfl]
    refine g_nop ?_
    exact g_ret ⟨rfl, B95, rfl, hIB95, hJB95, (frD_3 eB82 eB90 eB95), (apl_mk hI hIB82 hIB90 hp0 eB82 eB90 eB95 (by omega) (by omega) (by omega))⟩
set_option maxRecDepth 4000 in
set_option maxHeartbeats 4000000 in
/-- X1.hasPlace, exactly -/
theorem f_11 (a1 : Int32) (H : mzH) (hI : gI SX H) (hJ : JX H) (x0 x1 x2 x3 x4 : Int32) (hx0 : 0 ≤ x0.toInt ∧ x0.toInt ≤ 900) : gCall 11 [.ref 11, .int a1] (rS H x0 x1 x2 x3 x4) (gRi (fun v H' => H' = rS H x0 x1 x2 x3 x4 ∧ (0 ≤ v.toInt ∧ v.toInt ≤ 1) ∧ (v.toInt = 0 ∨ (0 ≤ a1.toInt ∧ a1.toInt ≤ 7)))) := by
  refine gG_call [(0, .ref 11), (1, .int a1)] ⟨rfl, rfl, trivial⟩ ?_
  show gG 2 zB_11 (mzBlk zB_11 0) [(0, .ref 11), (1, .int a1)] [] (rS H x0 x1 x2 x3 x4) 0 0 _
  refine g_iload_n rfl ?_
  refine g_if_lt (fun c25 => ?_) (fun c25 => ?_)
  · refine g_iconst (by decide) (fun v26 kv26 => ?_)
    refine g_nop ?_
    exact g_zret (by omega) ⟨_, rfl, rfl, (by omega), (by omega)⟩
  · refine g_iload_n rfl ?_
    refine g_aload_n rfl ?_
    refine g_gfi (rS_I hI (by omega)) sx_11 rfl (fun v27 ev27 lv27 uv27 => ?_)
    have iv27 : v27.toInt = (fZ H 11 7).toInt := by rw [ev27, ← rS_o (by decide)]
    refine g_if2_ge (fun c28 => ?_) (fun c28 => ?_)
    · refine g_iconst (by decide) (fun v29 kv29 => ?_)
      refine g_nop ?_
      exact g_zret (by omega) ⟨_, rfl, rfl, (by omega), (by omega)⟩
    · refine g_iconst (by decide) (fun v30 kv30 => ?_)
      refine g_goto ?_
      exact g_zret (by omega) ⟨_, rfl, rfl, (by omega), (by omega)⟩
set_option maxRecDepth 4000 in
set_option maxHeartbeats 4000000 in
/-- X1.way, exactly -/
theorem f_17 (a1 : Int32) (a2 : Int32) (H : mzH) (hI : gI SX H) (hJ : JX H) (x0 x1 x2 x3 x4 : Int32) (hx0 : 0 ≤ x0.toInt ∧ x0.toInt ≤ 900) : gCall 17 [.ref 11, .int a1, .int a2] (rS H x0 x1 x2 x3 x4) (gRi (fun v H' => H' = rS H x0 x1 x2 x3 x4)) := by
  refine gG_call [(0, .ref 11), (1, .int a1), (2, .int a2)] ⟨rfl, rfl, rfl, trivial⟩ ?_
  show gG 4 zB_17 (mzBlk zB_17 0) [(0, .ref 11), (1, .int a1), (2, .int a2)] [] (rS H x0 x1 x2 x3 x4) 0 0 _
  refine g_iload_n rfl ?_
  refine g_if_lt (fun c97 => ?_) (fun c97 => ?_)
  · refine g_iconst (by decide) (fun v98 kv98 => ?_)
    refine g_nop ?_
    refine g_istore_n (l' := [(0, .ref 11), (1, .int a1), (2, .int a2), (3, .int v98)]) rfl rfl ?_
    refine g_iload_n rfl ?_
    refine g_if_eq (fun c99 => ?_) (fun c99 => ?_)
    · refine g_bipush (by decide) (fun v100 kv100 => ?_)
      refine g_nop ?_
      exact g_iret ⟨_, rfl, rfl⟩
    · exfalso; omega
  · refine g_iload_n rfl ?_
    refine g_aload_n rfl ?_
    refine g_gfi (rS_I hI (by omega)) sx_11 rfl (fun v101 ev101 lv101 uv101 => ?_)
    have iv101 : v101.toInt = (fZ H 11 7).toInt := by rw [ev101, ← rS_o (by decide)]
    refine g_if2_ge (fun c102 => ?_) (fun c102 => ?_)
    · refine g_iconst (by decide) (fun v103 kv103 => ?_)
      refine g_nop ?_
      refine g_istore_n (l' := [(0, .ref 11), (1, .int a1), (2, .int a2), (3, .int v103)]) rfl rfl ?_
      refine g_iload_n rfl ?_
      refine g_if_eq (fun c104 => ?_) (fun c104 => ?_)
      · refine g_bipush (by decide) (fun v105 kv105 => ?_)
        refine g_nop ?_
        exact g_iret ⟨_, rfl, rfl⟩
      · exfalso; omega
    · refine g_iload_n rfl ?_
      refine g_if_lt (fun c106 => ?_) (fun c106 => ?_)
      · refine g_iconst (by decide) (fun v107 kv107 => ?_)
        refine g_nop ?_
        refine g_istore_n (l' := [(0, .ref 11), (1, .int a1), (2, .int a2), (3, .int v107)]) rfl rfl ?_
        refine g_iload_n rfl ?_
        refine g_if_eq (fun c108 => ?_) (fun c108 => ?_)
        · refine g_bipush (by decide) (fun v109 kv109 => ?_)
          refine g_nop ?_
          exact g_iret ⟨_, rfl, rfl⟩
        · exfalso; omega
      · refine g_iload_n rfl ?_
        refine g_aload_n rfl ?_
        refine g_gfi (rS_I hI (by omega)) sx_11 rfl (fun v110 ev110 lv110 uv110 => ?_)
        have iv110 : v110.toInt = (fZ H 11 7).toInt := by rw [ev110, ← rS_o (by decide)]
        refine g_if2_ge (fun c111 => ?_) (fun c111 => ?_)
        · refine g_iconst (by decide) (fun v112 kv112 => ?_)
          refine g_nop ?_
          refine g_istore_n (l' := [(0, .ref 11), (1, .int a1), (2, .int a2), (3, .int v112)]) rfl rfl ?_
          refine g_iload_n rfl ?_
          refine g_if_eq (fun c113 => ?_) (fun c113 => ?_)
          · refine g_bipush (by decide) (fun v114 kv114 => ?_)
            refine g_nop ?_
            exact g_iret ⟨_, rfl, rfl⟩
          · exfalso; omega
        · refine g_iconst (by decide) (fun v115 kv115 => ?_)
          refine g_goto ?_
          refine g_istore_n (l' := [(0, .ref 11), (1, .int a1), (2, .int a2), (3, .int v115)]) rfl rfl ?_
          refine g_iload_n rfl ?_
          refine g_if_eq (fun c116 => ?_) (fun c116 => ?_)
          · exfalso; omega
          · refine g_aload_n rfl ?_
            refine g_gfr (rS_I hI (by omega)) sx_11 rfl ?_
            refine g_iload_n rfl ?_
            refine g_bipush (by decide) (fun v117 kv117 => ?_)
            refine g_imulk (n := 8) kv117 (by omega) (fun v118 ev118 => ?_)
            refine g_iload_n rfl ?_
            refine g_iadd (by omega) (fun v119 ev119 => ?_)
            refine g_iaload (rS_I hI (by omega)) sx_13 rfl (by omega) (fun v120 ev120 lv120 uv120 => ?_)
            have dv120 : v120 = aZ H 13 v119.toInt.toNat := ev120.trans rS_a
            have tv120 : v120.toInt = (aZ H 13 v119.toInt.toNat).toInt := by rw [dv120]
            refine g_goto ?_
            exact g_iret ⟨_, rfl, rfl⟩
set_option maxRecDepth 4000 in
set_option maxHeartbeats 4000000 in
/-- X1.shorten, exactly -/
theorem f_18 (a1 : Int32) (a2 : Int32) (a3 : Int32) (H : mzH) (hI : gI SX H) (hJ : JX H) (x0 x1 x2 x3 x4 : Int32) (hx0 : 0 ≤ x0.toInt ∧ x0.toInt ≤ 900) : gCall 18 [.ref 11, .int a1, .int a2, .int a3] (rS H x0 x1 x2 x3 x4) (gRv (fun H' => ∃ B : mzH, H' = rS B x0 x1 x2 x3 x4 ∧ gI SX B ∧ JX B ∧ frW H B)) := by
  refine gG_call [(0, .ref 11), (1, .int a1), (2, .int a2), (3, .int a3)] ⟨rfl, rfl, rfl, rfl, trivial⟩ ?_
  show gG 5 zB_18 (mzBlk zB_18 0) [(0, .ref 11), (1, .int a1), (2, .int a2), (3, .int a3)] [] (rS H x0 x1 x2 x3 x4) 0 0 _
  refine g_aload_n rfl ?_
  refine g_iload_n rfl ?_
  refine g_iload_n rfl ?_
  refine g_invvi (rS_I hI (by omega)) sx_11 rfl rfl rfl rfl (f_17 a1 a2 H hI hJ x0 x1 x2 x3 x4 (by omega)) (fun v107 H105 r106 => ?_)
  obtain rfl := r106
  refine g_istore (l' := [(0, .ref 11), (1, .int a1), (2, .int a2), (3, .int a3), (4, .int v107)]) rfl rfl ?_
  refine g_aload_n rfl ?_
  refine g_iload_n rfl ?_
  refine g_invvi (rS_I hI (by omega)) sx_11 rfl rfl rfl rfl (f_11 a1 H hI hJ x0 x1 x2 x3 x4 (by omega)) (fun v110 H108 r109 => ?_)
  obtain ⟨rfl, bv110, zp111⟩ := r109
  refine g_if_eq (fun c112 => ?_) (fun c112 => ?_)
  · exact g_ret ⟨rfl, H, rfl, hI, hJ, (fun _ _ => rfl)⟩
  · refine g_aload_n rfl ?_
    refine g_iload_n rfl ?_
    refine g_invvi (rS_I hI (by omega)) sx_11 rfl rfl rfl rfl (f_11 a2 H hI hJ x0 x1 x2 x3 x4 (by omega)) (fun v115 H113 r114 => ?_)
    obtain ⟨rfl, bv115, zp116⟩ := r114
    refine g_if_eq (fun c117 => ?_) (fun c117 => ?_)
    · exact g_ret ⟨rfl, H, rfl, hI, hJ, (fun _ _ => rfl)⟩
    · refine g_iload rfl ?_
      refine g_bipush (by decide) (fun v118 kv118 => ?_)
      refine g_if2_eq (fun c119 => ?_) (fun c119 => ?_)
      · refine g_aload_n rfl ?_
        refine g_gfr (rS_I hI (by omega)) sx_11 rfl ?_
        refine g_iload_n rfl ?_
        refine g_bipush (by decide) (fun v120 kv120 => ?_)
        refine g_imulk (n := 8) kv120 (by omega) (fun v121 ev121 => ?_)
        refine g_iload_n rfl ?_
        refine g_iadd (by omega) (fun v122 ev122 => ?_)
        refine g_iload_n rfl ?_
        refine g_iastore (rS_I hI (by omega)) sx_13 (by omega) (gz_any _) (fun H123 eH123 hIH123 => ?_)
        obtain ⟨B124, eB124⟩ : ∃ z, z = sA H 13 v122.toInt.toNat a3 := ⟨_, rfl⟩
        obtain rfl : H123 = (rS B124 x0 x1 x2 x3 x4) := by rw [eH123, eB124]; exact rS_cA
        have hIB124 : gI SX B124 := by rw [eB124]; exact gI_sA hI sx_13 (gz_any _)
        have hJB124 : JX B124 := JX_sA (by decide) eB124 hJ
        refine g_nop ?_
        exact g_ret ⟨rfl, B124, rfl, hIB124, hJB124, (frW_1 eB124)⟩
      · refine g_iload_n rfl ?_
        refine g_iload rfl ?_
        refine g_if2_ge (fun c125 => ?_) (fun c125 => ?_)
        · exact g_ret ⟨rfl, H, rfl, hI, hJ, (fun _ _ => rfl)⟩
        · refine g_nop ?_
          refine g_aload_n rfl ?_
          refine g_gfr (rS_I hI (by omega)) sx_11 rfl ?_
          refine g_iload_n rfl ?_
          refine g_bipush (by decide) (fun v126 kv126 => ?_)
          refine g_imulk (n := 8) kv126 (by omega) (fun v127 ev127 => ?_)
          refine g_iload_n rfl ?_
          refine g_iadd (by omega) (fun v128 ev128 => ?_)
          refine g_iload_n rfl ?_
          refine g_iastore (rS_I hI (by omega)) sx_13 (by omega) (gz_any _) (fun H129 eH129 hIH129 => ?_)
          obtain ⟨B130, eB130⟩ : ∃ z, z = sA H 13 v128.toInt.toNat a3 := ⟨_, rfl⟩
          obtain rfl : H129 = (rS B130 x0 x1 x2 x3 x4) := by rw [eH129, eB130]; exact rS_cA
          have hIB130 : gI SX B130 := by rw [eB130]; exact gI_sA hI sx_13 (gz_any _)
          have hJB130 : JX B130 := JX_sA (by decide) eB130 hJ
          refine g_nop ?_
          exact g_ret ⟨rfl, B130, rfl, hIB130, hJB130, (frW_1 eB130)⟩
set_option maxRecDepth 4000 in
set_option maxHeartbeats 4000000 in
/-- X1.addRoad, exactly -/
theorem f_15 (a1 : Int32) (a2 : Int32) (a3 : Int32) (H : mzH) (hI : gI SX H) (hJ : JX H) (x0 x1 x2 x3 x4 : Int32) (hx0 : 0 ≤ x0.toInt ∧ x0.toInt ≤ 900) {b : pB} (hp0 : bkX H 11 b) (hp1 : b.R < 12) : gCall 15 [.ref 11, .int a1, .int a2, .int a3] (rS H x0 x1 x2 x3 x4) (gRv (fun H' => ∃ B : mzH, H' = rS B x0 x1 x2 x3 x4 ∧ gI SX B ∧ JX B ∧ frD H B ∧ bkX B 11 (bRd b))) := by
  have w1 := hp0.2.1
  have w2 := hp0.2.2.2.2.2.2.2.2
  refine gG_call [(0, .ref 11), (1, .int a1), (2, .int a2), (3, .int a3)] ⟨rfl, rfl, rfl, rfl, trivial⟩ ?_
  show gG 4 zB_15 (mzBlk zB_15 0) [(0, .ref 11), (1, .int a1), (2, .int a2), (3, .int a3)] [] (rS H x0 x1 x2 x3 x4) 0 0 _
  refine g_aload_n rfl ?_
  refine g_iload_n rfl ?_
  refine g_iload_n rfl ?_
  refine g_iload_n rfl ?_
  refine g_invvv (rS_I hI (by omega)) sx_11 rfl rfl rfl rfl (f_18 a1 a2 a3 H hI hJ x0 x1 x2 x3 x4 (by omega)) (fun H53 r54 => ?_)
  obtain ⟨B56, rfl, hIB56, hJB56, zp55⟩ := r54
  refine g_aload_n rfl ?_
  refine g_iload_n rfl ?_
  refine g_iload_n rfl ?_
  refine g_iload_n rfl ?_
  refine g_invvv (rS_I hIB56 (by omega)) sx_11 rfl rfl rfl rfl (f_18 a2 a1 a3 B56 hIB56 hJB56 x0 x1 x2 x3 x4 (by omega)) (fun H57 r58 => ?_)
  obtain ⟨B60, rfl, hIB60, hJB60, zp59⟩ := r58
  have w3 := ard_r zp55 zp59
  refine g_aload_n rfl ?_
  refine g_dup rfl ?_
  refine g_gfi (rS_I hIB60 (by omega)) sx_11 rfl (fun v61 ev61 lv61 uv61 => ?_)
  have iv61 : v61.toInt = (fZ B60 11 8).toInt := by rw [ev61, ← rS_o (by decide)]
  refine g_iconst (by decide) (fun v62 kv62 => ?_)
  refine g_iadd' (fun v63 ov63 => ?_)
  refine g_pfi (rS_I hIB60 (by omega)) sx_11 rfl (gz_any _) (fun H64 eH64 hIH64 => ?_)
  obtain ⟨B65, eB65⟩ : ∃ z, z = sF B60 11 8 v63 := ⟨_, rfl⟩
  obtain rfl : H64 = (rS B65 x0 x1 x2 x3 x4) := by rw [eH64, eB65]; exact rS_cF (by decide)
  have hIB65 : gI SX B65 := by rw [eB65]; exact gI_sF hIB60 sx_11 rfl (gz_any _)
  have hJB65 : JX B65 := JX_sF eB65 hJB60
  exact g_ret ⟨rfl, B65, rfl, hIB65, hJB65, (frD_r zp55 zp59 eB65), (ard_mk hIB60 hp0 zp55 zp59 eB65 (by have sv63 : (-2147483648 ≤ v61.toInt + v62.toInt ∧ v61.toInt + v62.toInt ≤ 2147483647) → v63.toInt = v61.toInt + v62.toInt := gz_add_of ov63; omega))⟩
