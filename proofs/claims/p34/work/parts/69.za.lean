/-! THE WAYS, as the class reads them -/
def wX (H : mzH) (k : Nat) : Int := (aZ H 13 k).toInt
theorem wX_cg {H B : mzH} (h : B[13]? = H[13]?) : wX B = wX H := by
  funext k
  unfold wX
  rw [aZ_cg h]
theorem wX_F {H B : mzH} {a f : Nat} {v : Int32} (e : B = sF H a f v) : wX B = wX H := by
  funext k
  unfold wX
  rw [e, aZ_sF]
theorem wX_3 {H B1 B2 B3 : mzH} {a1 a2 a3 f1 f2 f3 : Nat} {v1 v2 v3 : Int32} (e1 : B1 = sF H a1 f1 v1) (e2 : B2 = sF B1 a2 f2 v2) (e3 : B3 = sF B2 a3 f3 v3) : wX B3 = wX H := by rw [wX_F e3, wX_F e2, wX_F e1]
theorem wX_6 {H B1 B2 B3 B4 B5 B6 : mzH} {i1 i2 i3 i4 i5 f : Nat} {a1 a2 a3 a4 a5 u : Int32} (e1 : B1 = sA H 14 i1 a1) (e2 : B2 = sA B1 15 i2 a2) (e3 : B3 = sA B2 16 i3 a3) (e4 : B4 = sA B3 17 i4 a4) (e5 : B5 = sA B4 18 i5 a5) (e6 : B6 = sF B5 11 f u) : wX B6 = wX H := by
  funext k
  unfold wX
  rw [e6, aZ_sF, e5, aZ_sA_nc (by decide), e4, aZ_sA_nc (by decide), e3, aZ_sA_nc (by decide), e2, aZ_sA_nc (by decide), e1, aZ_sA_nc (by decide)]
def xPl (P : Int) (w : Nat → Int) : Nat → Int := fun k => if (k : Int) = 9 * P then 0 else w k
def xSh (w : Nat → Int) (i : Nat) (n : Int) : Nat → Int := fun k => if k = i ∧ (w i = -2 ∨ n < w i) then n else w k
def xRd (w : Nat → Int) (a b : Nat) (n : Int) : Nat → Int := xSh (xSh w (8 * a + b) n) (8 * b + a) n
theorem xpl_mk {H B1 B2 B3 : mzH} {P : Int} {i j w z u : Int32} (hI1 : gI SX B1) (e1 : B1 = sA H 12 i.toInt.toNat w) (e2 : B2 = sA B1 13 j.toInt.toNat z) (e3 : B3 = sF B2 11 7 u) (h : j.toInt = 9 * P ∧ 0 ≤ P ∧ P < 8 ∧ z.toInt = 0) : wX B3 = xPl P (wX H) := by
  funext k
  unfold wX xPl
  rw [e3, aZ_sF, e2, aZ_if hI1 sx_13 (by first | with_reducible assumption | omega) (show j.toInt.toNat = (9 * P).toNat by omega), e1]
  if q : (k : Int) = 9 * P then
    rw [if_pos (by first | with_reducible assumption | omega), if_pos q]
    exact h.2.2.2
  else
    rw [if_neg (by first | with_reducible assumption | omega), if_neg q, aZ_sA_nc (by decide)]
theorem xsh_y {H B : mzH} {j v : Int32} {i : Nat} (hI : gI SX H) (e : B = sA H 13 j.toInt.toNat v) (hj : j.toInt.toNat = i ∧ i < 64) (hc : wX H i = -2 ∨ v.toInt < wX H i) : wX B = xSh (wX H) i v.toInt := by
  funext k
  unfold xSh
  show (aZ B 13 k).toInt = _
  rw [e, aZ_if hI sx_13 (by first | with_reducible assumption | omega) hj.1]
  if q : k = i then
    rw [if_pos q, if_pos ⟨q, hc⟩]
  else
    rw [if_neg q, if_neg (fun z => q z.1)]
    rfl
theorem xsh_n {H : mzH} {n : Int} {i : Nat} (hc : ¬ (wX H i = -2 ∨ n < wX H i)) : wX H = xSh (wX H) i n := by
  funext k
  unfold xSh
  rw [if_neg (fun z => hc z.2)]
theorem xrd_mk {H B1 B2 B3 : mzH} {a b : Nat} {n : Int} {u : Int32} {f : Nat} (e : B3 = sF B2 11 f u) (h1 : wX B1 = xSh (wX H) (8 * a + b) n) (h2 : wX B2 = xSh (wX B1) (8 * b + a) n) : wX B3 = xRd (wX H) a b n := by
  unfold xRd
  rw [wX_F e, h2, h1]
theorem pn_rng {nm : Nat → Int} {w : Int} : ∀ {P : Nat}, pNm nm w P = -2 ∨ (0 ≤ pNm nm w P ∧ pNm nm w P < P)
  | 0 => Or.inl rfl
  | P + 1 => by
    have h := pn_rng (nm := nm) (w := w) (P := P)
    unfold pNm
    split
    · split
      · exact Or.inr (by first | with_reducible assumption | omega)
      · exact Or.inl rfl
    · exact Or.inr (by first | with_reducible assumption | omega)
theorem pl_rng {nm : Nat → Int} {P : Int} {T : pT} {g : pG} : pPl nm P T g = -2 ∨ (0 ≤ pPl nm P T g ∧ pPl nm P T g < P) := by
  unfold pPl
  split
  · have h := pn_rng (nm := nm) (w := T.V g.t) (P := P.toNat)
    omega
  · exact Or.inl rfl
def xLn (b : pB) (T : pT) (g : pG) (w : Nat → Int) : Nat → Int := if T.K g.t = 0 then (if (pRdP b T g).f = 0 then xPl b.P w else w) else if T.K g.t = 1 then (if (pRdR b T g).f = 0 then xRd w (pPl b.nm b.P T (pRdR1 b T g)).toNat (pPl b.nm b.P T (pRdR2 b T g)).toNat (T.V (pRdR3 b T g).t) else w) else w
def xIt (told : Int) (T : pT) : Nat → pB → (Nat → Int) → Nat → Int
  | 0, _, w => w
  | n + 1, b, w => xLn (pIt told T n b).1 T (pSg told T (pIt told T n b).2) (xIt told T n b w)
theorem xi_0 {told : Int} {T : pT} {b : pB} {w : Nat → Int} {n : Nat} (h : n = 0) : xIt told T n b w = w := by subst h; rfl
theorem xi_st {told : Int} {T : pT} {b : pB} {w : Nat → Int} {n n' : Nat} (h : n' = n + 1) : xIt told T n' b w = xLn (pIt told T n b).1 T (pSg told T (pIt told T n b).2) (xIt told T n b w) := by subst h; rfl
def rdEw (H B : mzH) (a1 a2 : Int32) (b : pB) (y0 y1 y2 y3 y4 : Int32) : Prop := ∃ (T : pT) (n : Nat), tkA (bX H) a1.toInt.toNat T.K T.S T.V T.M ∧ (pGoes a2.toInt T b n ∧ pStop T (pIt a2.toInt T n b).2) ∧ rdX T (pIt a2.toInt T n b).2 y0 y1 y2 y3 y4 ∧ bkX B 11 (pIt a2.toInt T n b).1 ∧ (fZ B 19 7).toInt = n ∧ frE H B ∧ wX B = xIt a2.toInt T n b (wX H)
set_option maxRecDepth 4000 in
set_option maxHeartbeats 4000000 in
/-- X1.way, exactly -/
theorem h_17 (a1 : Int32) (a2 : Int32) (H : mzH) (hI : gI SX H) (hJ : JX H) (x0 x1 x2 x3 x4 : Int32) (hx0 : 0 ≤ x0.toInt ∧ x0.toInt ≤ 900) : gCall 17 [.ref 11, .int a1, .int a2] (rS H x0 x1 x2 x3 x4) (gRi (fun v H' => H' = rS H x0 x1 x2 x3 x4 ∧ ((0 ≤ a1.toInt ∧ a1.toInt < (fZ H 11 7).toInt ∧ 0 ≤ a2.toInt ∧ a2.toInt < (fZ H 11 7).toInt ∧ v.toInt = wX H (8 * a1.toInt.toNat + a2.toInt.toNat)) ∨ (¬ (0 ≤ a1.toInt ∧ a1.toInt < (fZ H 11 7).toInt ∧ 0 ≤ a2.toInt ∧ a2.toInt < (fZ H 11 7).toInt) ∧ v.toInt = -2)))) := by
  refine gG_call [(0, .ref 11), (1, .int a1), (2, .int a2)] ⟨rfl, rfl, rfl, trivial⟩ ?_
  show gG 4 zB_17 (mzBlk zB_17 0) [(0, .ref 11), (1, .int a1), (2, .int a2)] [] (rS H x0 x1 x2 x3 x4) 0 0 _
  refine g_iload_n rfl ?_
  refine g_if_lt (fun c97 => ?_) (fun c97 => ?_)
  · refine g_iconst (by decide) (fun v98 kv98 => ?_)
    refine g_nop ?_
    refine g_istore_n (l' := [(0, .ref 11), (1, .int a1), (2, .int a2), (3, .int v98)]) rfl rfl ?_
    refine g_iload_n rfl ?_
    refine g_if_eq (fun c99 => ?_) (fun c99 => ?_)
    · refine g_bipush (by decide) (fun v100 kv100 => ?_)
      refine g_nop ?_
      exact g_iret ⟨_, rfl, rfl, (Or.inr ⟨by omega, by omega⟩)⟩
    · exfalso; omega
  · refine g_iload_n rfl ?_
    refine g_aload_n rfl ?_
    refine g_gfi (rS_I hI (by first | with_reducible assumption | omega)) sx_11 rfl (fun v101 ev101 lv101 uv101 => ?_)
    have iv101 : v101.toInt = (fZ H 11 7).toInt := by rw [ev101, ← rS_o (by decide)]
    refine g_if2_ge (fun c102 => ?_) (fun c102 => ?_)
    · refine g_iconst (by decide) (fun v103 kv103 => ?_)
      refine g_nop ?_
      refine g_istore_n (l' := [(0, .ref 11), (1, .int a1), (2, .int a2), (3, .int v103)]) rfl rfl ?_
      refine g_iload_n rfl ?_
      refine g_if_eq (fun c104 => ?_) (fun c104 => ?_)
      · refine g_bipush (by decide) (fun v105 kv105 => ?_)
        refine g_nop ?_
        exact g_iret ⟨_, rfl, rfl, (Or.inr ⟨by omega, by omega⟩)⟩
      · exfalso; omega
    · refine g_iload_n rfl ?_
      refine g_if_lt (fun c106 => ?_) (fun c106 => ?_)
      · refine g_iconst (by decide) (fun v107 kv107 => ?_)
        refine g_nop ?_
        refine g_istore_n (l' := [(0, .ref 11), (1, .int a1), (2, .int a2), (3, .int v107)]) rfl rfl ?_
        refine g_iload_n rfl ?_
        refine g_if_eq (fun c108 => ?_) (fun c108 => ?_)
        · refine g_bipush (by decide) (fun v109 kv109 => ?_)
          refine g_nop ?_
          exact g_iret ⟨_, rfl, rfl, (Or.inr ⟨by omega, by omega⟩)⟩
        · exfalso; omega
      · refine g_iload_n rfl ?_
        refine g_aload_n rfl ?_
        refine g_gfi (rS_I hI (by first | with_reducible assumption | omega)) sx_11 rfl (fun v110 ev110 lv110 uv110 => ?_)
        have iv110 : v110.toInt = (fZ H 11 7).toInt := by rw [ev110, ← rS_o (by decide)]
        refine g_if2_ge (fun c111 => ?_) (fun c111 => ?_)
        · refine g_iconst (by decide) (fun v112 kv112 => ?_)
          refine g_nop ?_
          refine g_istore_n (l' := [(0, .ref 11), (1, .int a1), (2, .int a2), (3, .int v112)]) rfl rfl ?_
          refine g_iload_n rfl ?_
          refine g_if_eq (fun c113 => ?_) (fun c113 => ?_)
          · refine g_bipush (by decide) (fun v114 kv114 => ?_)
            refine g_nop ?_
            exact g_iret ⟨_, rfl, rfl, (Or.inr ⟨by omega, by omega⟩)⟩
          · exfalso; omega
        · refine g_iconst (by decide) (fun v115 kv115 => ?_)
          refine g_goto ?_
          refine g_istore_n (l' := [(0, .ref 11), (1, .int a1), (2, .int a2), (3, .int v115)]) rfl rfl ?_
          refine g_iload_n rfl ?_
          refine g_if_eq (fun c116 => ?_) (fun c116 => ?_)
          · exfalso; omega
          · refine g_aload_n rfl ?_
            refine g_gfr (rS_I hI (by first | with_reducible assumption | omega)) sx_11 rfl ?_
            refine g_iload_n rfl ?_
            refine g_bipush (by decide) (fun v117 kv117 => ?_)
            refine g_imulk (n := 8) kv117 (by first | with_reducible assumption | omega) (fun v118 ev118 => ?_)
            refine g_iload_n rfl ?_
            refine g_iadd (by first | with_reducible assumption | omega) (fun v119 ev119 => ?_)
            refine g_iaload (rS_I hI (by first | with_reducible assumption | omega)) sx_13 rfl (by first | with_reducible assumption | omega) (fun v120 ev120 lv120 uv120 => ?_)
            have dv120 : v120 = aZ H 13 v119.toInt.toNat := ev120.trans rS_a
            have tv120 : v120.toInt = (aZ H 13 v119.toInt.toNat).toInt := by rw [dv120]
            refine g_goto ?_
            exact g_iret ⟨_, rfl, rfl, (Or.inl ⟨by omega, by omega, by omega, by omega, by unfold wX; rw [show (8 * a1.toInt.toNat + a2.toInt.toNat) = v119.toInt.toNat by omega]; exact tv120⟩)⟩
set_option maxRecDepth 4000 in
set_option maxHeartbeats 4000000 in
/-- X1.hasPlace, exactly -/
theorem h_11 (a1 : Int32) (H : mzH) (hI : gI SX H) (hJ : JX H) (x0 x1 x2 x3 x4 : Int32) (hx0 : 0 ≤ x0.toInt ∧ x0.toInt ≤ 900) : gCall 11 [.ref 11, .int a1] (rS H x0 x1 x2 x3 x4) (gRi (fun v H' => H' = rS H x0 x1 x2 x3 x4 ∧ (0 ≤ v.toInt ∧ v.toInt ≤ 1) ∧ (v.toInt = 0 ∨ (0 ≤ a1.toInt ∧ a1.toInt ≤ 7)) ∧ ((v.toInt = 1 ∧ 0 ≤ a1.toInt ∧ a1.toInt < (fZ H 11 7).toInt) ∨ (v.toInt = 0 ∧ ¬ (0 ≤ a1.toInt ∧ a1.toInt < (fZ H 11 7).toInt))))) := by
  refine gG_call [(0, .ref 11), (1, .int a1)] ⟨rfl, rfl, trivial⟩ ?_
  show gG 2 zB_11 (mzBlk zB_11 0) [(0, .ref 11), (1, .int a1)] [] (rS H x0 x1 x2 x3 x4) 0 0 _
  refine g_iload_n rfl ?_
  refine g_if_lt (fun c25 => ?_) (fun c25 => ?_)
  · refine g_iconst (by decide) (fun v26 kv26 => ?_)
    refine g_nop ?_
    exact g_zret (by first | with_reducible assumption | omega) ⟨_, rfl, rfl, (by first | with_reducible assumption | omega), (by first | with_reducible assumption | omega), (by first | with_reducible assumption | omega)⟩
  · refine g_iload_n rfl ?_
    refine g_aload_n rfl ?_
    refine g_gfi (rS_I hI (by first | with_reducible assumption | omega)) sx_11 rfl (fun v27 ev27 lv27 uv27 => ?_)
    have iv27 : v27.toInt = (fZ H 11 7).toInt := by rw [ev27, ← rS_o (by decide)]
    refine g_if2_ge (fun c28 => ?_) (fun c28 => ?_)
    · refine g_iconst (by decide) (fun v29 kv29 => ?_)
      refine g_nop ?_
      exact g_zret (by first | with_reducible assumption | omega) ⟨_, rfl, rfl, (by first | with_reducible assumption | omega), (by first | with_reducible assumption | omega), (by first | with_reducible assumption | omega)⟩
    · refine g_iconst (by decide) (fun v30 kv30 => ?_)
      refine g_goto ?_
      exact g_zret (by first | with_reducible assumption | omega) ⟨_, rfl, rfl, (by first | with_reducible assumption | omega), (by first | with_reducible assumption | omega), (by first | with_reducible assumption | omega)⟩
set_option maxRecDepth 4000 in
set_option maxHeartbeats 4000000 in
/-- X1.addPlace, exactly -/
theorem h_14 (a1 : Int32) (H : mzH) (hI : gI SX H) (hJ : JX H) (x0 x1 x2 x3 x4 : Int32) (hx0 : 0 ≤ x0.toInt ∧ x0.toInt ≤ 900) {b : pB} (hp0 : bkX H 11 b) (hp1 : b.P < 8) : gCall 14 [.ref 11, .int a1] (rS H x0 x1 x2 x3 x4) (gRv (fun H' => ∃ B : mzH, H' = rS B x0 x1 x2 x3 x4 ∧ gI SX B ∧ JX B ∧ frD H B ∧ bkX B 11 (bPl b a1.toInt) ∧ wX B = xPl b.P (wX H))) := by
  have w1 := hp0.1
  refine gG_call [(0, .ref 11), (1, .int a1)] ⟨rfl, rfl, trivial⟩ ?_
  show gG 2 zB_14 (mzBlk zB_14 0) [(0, .ref 11), (1, .int a1)] [] (rS H x0 x1 x2 x3 x4) 0 0 _
  refine g_aload_n rfl ?_
  refine g_gfi (rS_I hI (by first | with_reducible assumption | omega)) sx_11 rfl (fun v77 ev77 lv77 uv77 => ?_)
  have iv77 : v77.toInt = (fZ H 11 7).toInt := by rw [ev77, ← rS_o (by decide)]
  refine g_bipush (by decide) (fun v78 kv78 => ?_)
  refine g_if2_ge (fun c79 => ?_) (fun c79 => ?_)
  · exact g_ret ⟨rfl, H, rfl, hI, hJ, (by exfalso; omega), (by exfalso; omega), (by exfalso; omega)⟩
  · refine g_aload_n rfl ?_
    refine g_gfr (rS_I hI (by first | with_reducible assumption | omega)) sx_11 rfl ?_
    refine g_aload_n rfl ?_
    refine g_gfi (rS_I hI (by first | with_reducible assumption | omega)) sx_11 rfl (fun v80 ev80 lv80 uv80 => ?_)
    have iv80 : v80.toInt = (fZ H 11 7).toInt := by rw [ev80, ← rS_o (by decide)]
    refine g_iload_n rfl ?_
    refine g_iastore (rS_I hI (by first | with_reducible assumption | omega)) sx_12 (by first | with_reducible assumption | omega) (gz_any _) (fun H81 eH81 hIH81 => ?_)
    obtain ⟨B82, eB82⟩ : ∃ z, z = sA H 12 v80.toInt.toNat a1 := ⟨_, rfl⟩
    obtain rfl : H81 = (rS B82 x0 x1 x2 x3 x4) := by rw [eH81, eB82]; exact rS_cA
    have hIB82 : gI SX B82 := by rw [eB82]; exact gI_sA hI sx_12 (gz_any _)
    have hJB82 : JX B82 := JX_sA (by decide) eB82 hJ
    have jB82_11_7 : (fZ B82 11 7).toInt = (fZ H 11 7).toInt := by rw [eB82, fZ_sA]
    refine g_aload_n rfl ?_
    refine g_gfr (rS_I hIB82 (by first | with_reducible assumption | omega)) sx_11 rfl ?_
    refine g_aload_n rfl ?_
    refine g_gfi (rS_I hIB82 (by first | with_reducible assumption | omega)) sx_11 rfl (fun v83 ev83 lv83 uv83 => ?_)
    have iv83 : v83.toInt = (fZ B82 11 7).toInt := by rw [ev83, ← rS_o (by decide)]
    refine g_bipush (by decide) (fun v84 kv84 => ?_)
    refine g_imulk (n := 8) kv84 (by first | with_reducible assumption | omega) (fun v85 ev85 => ?_)
    refine g_aload_n rfl ?_
    refine g_gfi (rS_I hIB82 (by first | with_reducible assumption | omega)) sx_11 rfl (fun v86 ev86 lv86 uv86 => ?_)
    have iv86 : v86.toInt = (fZ B82 11 7).toInt := by rw [ev86, ← rS_o (by decide)]
    refine g_iadd (by first | with_reducible assumption | omega) (fun v87 ev87 => ?_)
    refine g_iconst (by decide) (fun v88 kv88 => ?_)
    refine g_iastore (rS_I hIB82 (by first | with_reducible assumption | omega)) sx_13 (by first | with_reducible assumption | omega) (gz_any _) (fun H89 eH89 hIH89 => ?_)
    obtain ⟨B90, eB90⟩ : ∃ z, z = sA B82 13 v87.toInt.toNat v88 := ⟨_, rfl⟩
    obtain rfl : H89 = (rS B90 x0 x1 x2 x3 x4) := by rw [eH89, eB90]; exact rS_cA
    have hIB90 : gI SX B90 := by rw [eB90]; exact gI_sA hIB82 sx_13 (gz_any _)
    have hJB90 : JX B90 := JX_sA (by decide) eB90 hJB82
    have jB90_11_7 : (fZ B90 11 7).toInt = (fZ B82 11 7).toInt := by rw [eB90, fZ_sA]
    refine g_aload_n rfl ?_
    refine g_dup rfl ?_
    refine g_gfi (rS_I hIB90 (by first | with_reducible assumption | omega)) sx_11 rfl (fun v91 ev91 lv91 uv91 => ?_)
    have iv91 : v91.toInt = (fZ B90 11 7).toInt := by rw [ev91, ← rS_o (by decide)]
    refine g_iconst (by decide) (fun v92 kv92 => ?_)
    refine g_iadd (by first | with_reducible assumption | omega) (fun v93 ev93 => ?_)
    refine g_pfi (rS_I hIB90 (by first | with_reducible assumption | omega)) sx_11 rfl (by first | with_reducible assumption | omega) (fun H94 eH94 hIH94 => ?_)
    obtain ⟨B95, eB95⟩ : ∃ z, z = sF B90 11 7 v93 := ⟨_, rfl⟩
    obtain rfl : H94 = (rS B95 x0 x1 x2 x3 x4) := by rw [eH94, eB95]; exact rS_cF (by decide)
    have hIB95 : gI SX B95 := by rw [eB95]; exact gI_sF hIB90 sx_11 rfl (by first | with_reducible assumption | omega)
    have hJB95 : JX B95 := JX_sF eB95 hJB90
    have jB95_11_7 : (fZ B95 11 7).toInt = v93.toInt := by rw [eB95, fZ_sF_eq hIB90 sx_11 rfl]
    refine g_nop ?_
    exact g_ret ⟨rfl, B95, rfl, hIB95, hJB95, (frD_3 eB82 eB90 eB95), (apl_mk hI hIB82 hIB90 hp0 eB82 eB90 eB95 (by first | with_reducible assumption | omega) (by first | with_reducible assumption | omega) (by first | with_reducible assumption | omega)), (xpl_mk hIB82 eB82 eB90 eB95 (by first | with_reducible assumption | omega))⟩
set_option maxRecDepth 4000 in
set_option maxHeartbeats 4000000 in
/-- X1.shorten, exactly -/
theorem h_18 (a1 : Int32) (a2 : Int32) (a3 : Int32) (H : mzH) (hI : gI SX H) (hJ : JX H) (x0 x1 x2 x3 x4 : Int32) (hx0 : 0 ≤ x0.toInt ∧ x0.toInt ≤ 900) (hp0 : 0 ≤ a1.toInt ∧ a1.toInt < (fZ H 11 7).toInt ∧ 0 ≤ a2.toInt ∧ a2.toInt < (fZ H 11 7).toInt) : gCall 18 [.ref 11, .int a1, .int a2, .int a3] (rS H x0 x1 x2 x3 x4) (gRv (fun H' => ∃ B : mzH, H' = rS B x0 x1 x2 x3 x4 ∧ gI SX B ∧ JX B ∧ frW H B ∧ wX B = xSh (wX H) (8 * a1.toInt.toNat + a2.toInt.toNat) a3.toInt)) := by
  refine gG_call [(0, .ref 11), (1, .int a1), (2, .int a2), (3, .int a3)] ⟨rfl, rfl, rfl, rfl, trivial⟩ ?_
  show gG 5 zB_18 (mzBlk zB_18 0) [(0, .ref 11), (1, .int a1), (2, .int a2), (3, .int a3)] [] (rS H x0 x1 x2 x3 x4) 0 0 _
  refine g_aload_n rfl ?_
  refine g_iload_n rfl ?_
  refine g_iload_n rfl ?_
  refine g_invvi (rS_I hI (by first | with_reducible assumption | omega)) sx_11 rfl rfl rfl rfl (h_17 a1 a2 H hI hJ x0 x1 x2 x3 x4 (by first | with_reducible assumption | omega)) (fun v119 H117 r118 => ?_)
  obtain ⟨rfl, zp120⟩ := r118
  refine g_istore (l' := [(0, .ref 11), (1, .int a1), (2, .int a2), (3, .int a3), (4, .int v119)]) rfl rfl ?_
  refine g_aload_n rfl ?_
  refine g_iload_n rfl ?_
  refine g_invvi (rS_I hI (by first | with_reducible assumption | omega)) sx_11 rfl rfl rfl rfl (h_11 a1 H hI hJ x0 x1 x2 x3 x4 (by first | with_reducible assumption | omega)) (fun v123 H121 r122 => ?_)
  obtain ⟨rfl, bv123, zp124, zp125⟩ := r122
  refine g_if_eq (fun c126 => ?_) (fun c126 => ?_)
  · exact g_ret ⟨rfl, H, rfl, hI, hJ, (fun _ _ => rfl), (xsh_n (by first | with_reducible assumption | omega))⟩
  · refine g_aload_n rfl ?_
    refine g_iload_n rfl ?_
    refine g_invvi (rS_I hI (by first | with_reducible assumption | omega)) sx_11 rfl rfl rfl rfl (h_11 a2 H hI hJ x0 x1 x2 x3 x4 (by first | with_reducible assumption | omega)) (fun v129 H127 r128 => ?_)
    obtain ⟨rfl, bv129, zp130, zp131⟩ := r128
    refine g_if_eq (fun c132 => ?_) (fun c132 => ?_)
    · exact g_ret ⟨rfl, H, rfl, hI, hJ, (fun _ _ => rfl), (xsh_n (by first | with_reducible assumption | omega))⟩
    · refine g_iload rfl ?_
      refine g_bipush (by decide) (fun v133 kv133 => ?_)
      refine g_if2_eq (fun c134 => ?_) (fun c134 => ?_)
      · refine g_aload_n rfl ?_
        refine g_gfr (rS_I hI (by first | with_reducible assumption | omega)) sx_11 rfl ?_
        refine g_iload_n rfl ?_
        refine g_bipush (by decide) (fun v135 kv135 => ?_)
        refine g_imulk (n := 8) kv135 (by first | with_reducible assumption | omega) (fun v136 ev136 => ?_)
        refine g_iload_n rfl ?_
        refine g_iadd (by first | with_reducible assumption | omega) (fun v137 ev137 => ?_)
        refine g_iload_n rfl ?_
        refine g_iastore (rS_I hI (by first | with_reducible assumption | omega)) sx_13 (by first | with_reducible assumption | omega) (gz_any _) (fun H138 eH138 hIH138 => ?_)
        obtain ⟨B139, eB139⟩ : ∃ z, z = sA H 13 v137.toInt.toNat a3 := ⟨_, rfl⟩
        obtain rfl : H138 = (rS B139 x0 x1 x2 x3 x4) := by rw [eH138, eB139]; exact rS_cA
        have hIB139 : gI SX B139 := by rw [eB139]; exact gI_sA hI sx_13 (gz_any _)
        have hJB139 : JX B139 := JX_sA (by decide) eB139 hJ
        refine g_nop ?_
        exact g_ret ⟨rfl, B139, rfl, hIB139, hJB139, (frW_1 eB139), (xsh_y hI eB139 (by first | with_reducible assumption | omega) (by first | with_reducible assumption | omega))⟩
      · refine g_iload_n rfl ?_
        refine g_iload rfl ?_
        refine g_if2_ge (fun c140 => ?_) (fun c140 => ?_)
        · exact g_ret ⟨rfl, H, rfl, hI, hJ, (fun _ _ => rfl), (xsh_n (by first | with_reducible assumption | omega))⟩
        · refine g_nop ?_
          refine g_aload_n rfl ?_
          refine g_gfr (rS_I hI (by first | with_reducible assumption | omega)) sx_11 rfl ?_
          refine g_iload_n rfl ?_
          refine g_bipush (by decide) (fun v141 kv141 => ?_)
          refine g_imulk (n := 8) kv141 (by first | with_reducible assumption | omega) (fun v142 ev142 => ?_)
          refine g_iload_n rfl ?_
          refine g_iadd (by first | with_reducible assumption | omega) (fun v143 ev143 => ?_)
          refine g_iload_n rfl ?_
          refine g_iastore (rS_I hI (by first | with_reducible assumption | omega)) sx_13 (by first | with_reducible assumption | omega) (gz_any _) (fun H144 eH144 hIH144 => ?_)
          obtain ⟨B145, eB145⟩ : ∃ z, z = sA H 13 v143.toInt.toNat a3 := ⟨_, rfl⟩
          obtain rfl : H144 = (rS B145 x0 x1 x2 x3 x4) := by rw [eH144, eB145]; exact rS_cA
          have hIB145 : gI SX B145 := by rw [eB145]; exact gI_sA hI sx_13 (gz_any _)
          have hJB145 : JX B145 := JX_sA (by decide) eB145 hJ
          refine g_nop ?_
          exact g_ret ⟨rfl, B145, rfl, hIB145, hJB145, (frW_1 eB145), (xsh_y hI eB145 (by first | with_reducible assumption | omega) (by first | with_reducible assumption | omega))⟩
set_option maxRecDepth 4000 in
set_option maxHeartbeats 4000000 in
/-- X1.addRoad, exactly -/
theorem h_15 (a1 : Int32) (a2 : Int32) (a3 : Int32) (H : mzH) (hI : gI SX H) (hJ : JX H) (x0 x1 x2 x3 x4 : Int32) (hx0 : 0 ≤ x0.toInt ∧ x0.toInt ≤ 900) {b : pB} (hp0 : bkX H 11 b) (hp1 : b.R < 12) (hp2 : 0 ≤ a1.toInt ∧ a1.toInt < (fZ H 11 7).toInt ∧ 0 ≤ a2.toInt ∧ a2.toInt < (fZ H 11 7).toInt) : gCall 15 [.ref 11, .int a1, .int a2, .int a3] (rS H x0 x1 x2 x3 x4) (gRv (fun H' => ∃ B : mzH, H' = rS B x0 x1 x2 x3 x4 ∧ gI SX B ∧ JX B ∧ frD H B ∧ bkX B 11 (bRd b) ∧ wX B = xRd (wX H) a1.toInt.toNat a2.toInt.toNat a3.toInt)) := by
  have w1 := hp0.2.1
  have w2 := hp0.2.2.2.2.2.2.2.2
  refine gG_call [(0, .ref 11), (1, .int a1), (2, .int a2), (3, .int a3)] ⟨rfl, rfl, rfl, rfl, trivial⟩ ?_
  show gG 4 zB_15 (mzBlk zB_15 0) [(0, .ref 11), (1, .int a1), (2, .int a2), (3, .int a3)] [] (rS H x0 x1 x2 x3 x4) 0 0 _
  refine g_aload_n rfl ?_
  refine g_iload_n rfl ?_
  refine g_iload_n rfl ?_
  refine g_iload_n rfl ?_
  refine g_invvv (rS_I hI (by first | with_reducible assumption | omega)) sx_11 rfl rfl rfl rfl (h_18 a1 a2 a3 H hI hJ x0 x1 x2 x3 x4 (by first | with_reducible assumption | omega) (by first | with_reducible assumption | omega)) (fun H61 r62 => ?_)
  obtain ⟨B65, rfl, hIB65, hJB65, zp63, zp64⟩ := r62
  have w4 : (fZ B65 11 7).toInt = (fZ H 11 7).toInt := by rw [fZ_cg (zp63 11 (by decide))]
  refine g_aload_n rfl ?_
  refine g_iload_n rfl ?_
  refine g_iload_n rfl ?_
  refine g_iload_n rfl ?_
  refine g_invvv (rS_I hIB65 (by first | with_reducible assumption | omega)) sx_11 rfl rfl rfl rfl (h_18 a2 a1 a3 B65 hIB65 hJB65 x0 x1 x2 x3 x4 (by first | with_reducible assumption | omega) (by first | with_reducible assumption | omega)) (fun H66 r67 => ?_)
  obtain ⟨B70, rfl, hIB70, hJB70, zp68, zp69⟩ := r67
  have w3 := ard_r zp63 zp68
  refine g_aload_n rfl ?_
  refine g_dup rfl ?_
  refine g_gfi (rS_I hIB70 (by first | with_reducible assumption | omega)) sx_11 rfl (fun v71 ev71 lv71 uv71 => ?_)
  have iv71 : v71.toInt = (fZ B70 11 8).toInt := by rw [ev71, ← rS_o (by decide)]
  refine g_iconst (by decide) (fun v72 kv72 => ?_)
  refine g_iadd' (fun v73 ov73 => ?_)
  refine g_pfi (rS_I hIB70 (by first | with_reducible assumption | omega)) sx_11 rfl (gz_any _) (fun H74 eH74 hIH74 => ?_)
  obtain ⟨B75, eB75⟩ : ∃ z, z = sF B70 11 8 v73 := ⟨_, rfl⟩
  obtain rfl : H74 = (rS B75 x0 x1 x2 x3 x4) := by rw [eH74, eB75]; exact rS_cF (by decide)
  have hIB75 : gI SX B75 := by rw [eB75]; exact gI_sF hIB70 sx_11 rfl (gz_any _)
  have hJB75 : JX B75 := JX_sF eB75 hJB70
  exact g_ret ⟨rfl, B75, rfl, hIB75, hJB75, (frD_r zp63 zp68 eB75), (ard_mk hIB70 hp0 zp63 zp68 eB75 (by have sv73 : (-2147483648 ≤ v71.toInt + v72.toInt ∧ v71.toInt + v72.toInt ≤ 2147483647) → v73.toInt = v71.toInt + v72.toInt := gz_add_of ov73; omega)), (xrd_mk eB75 zp64 zp69)⟩
set_option maxRecDepth 4000 in
set_option maxHeartbeats 4000000 in
/-- X1.addMessage, exactly -/
theorem h_16 (a1 : Int32) (a2 : Int32) (a3 : Int32) (ha3 : 0 ≤ a3.toInt ∧ a3.toInt ≤ 39) (a4 : Int32) (ha4 : -2 ≤ a4.toInt ∧ a4.toInt ≤ 39) (a5 : Int32) (H : mzH) (hI : gI SX H) (hJ : JX H) (x0 x1 x2 x3 x4 : Int32) (hx0 : 0 ≤ x0.toInt ∧ x0.toInt ≤ 900) {b : pB} (hp0 : bkX H 11 b) (hp1 : b.N < 60) (hp2 : (a2.toInt = 1 → 0 ≤ a4.toInt)) : gCall 16 [.ref 11, .int a1, .int a2, .int a3, .int a4, .int a5] (rS H x0 x1 x2 x3 x4) (gRv (fun H' => ∃ B : mzH, H' = rS B x0 x1 x2 x3 x4 ∧ gI SX B ∧ JX B ∧ frD H B ∧ bkX B 11 (bMs b a1.toInt a2.toInt a3.toInt a4.toInt a5.toInt) ∧ wX B = wX H)) := by
  have w1 := hp0.2.2.1
  refine gG_call [(0, .ref 11), (1, .int a1), (2, .int a2), (3, .int a3), (4, .int a4), (5, .int a5)] ⟨rfl, rfl, rfl, rfl, rfl, rfl, trivial⟩ ?_
  show gG 6 zB_16 (mzBlk zB_16 0) [(0, .ref 11), (1, .int a1), (2, .int a2), (3, .int a3), (4, .int a4), (5, .int a5)] [] (rS H x0 x1 x2 x3 x4) 0 0 _
  refine g_aload_n rfl ?_
  refine g_gfi (rS_I hI (by first | with_reducible assumption | omega)) sx_11 rfl (fun v93 ev93 lv93 uv93 => ?_)
  have iv93 : v93.toInt = (fZ H 11 9).toInt := by rw [ev93, ← rS_o (by decide)]
  refine g_bipush (by decide) (fun v94 kv94 => ?_)
  refine g_if2_ge (fun c95 => ?_) (fun c95 => ?_)
  · exact g_ret ⟨rfl, H, rfl, hI, hJ, (by exfalso; omega), (by exfalso; omega), (by exfalso; omega)⟩
  · refine g_aload_n rfl ?_
    refine g_gfr (rS_I hI (by first | with_reducible assumption | omega)) sx_11 rfl ?_
    refine g_aload_n rfl ?_
    refine g_gfi (rS_I hI (by first | with_reducible assumption | omega)) sx_11 rfl (fun v96 ev96 lv96 uv96 => ?_)
    have iv96 : v96.toInt = (fZ H 11 9).toInt := by rw [ev96, ← rS_o (by decide)]
    refine g_iload_n rfl ?_
    refine g_iastore (rS_I hI (by first | with_reducible assumption | omega)) sx_14 (by first | with_reducible assumption | omega) (gz_any _) (fun H97 eH97 hIH97 => ?_)
    obtain ⟨B98, eB98⟩ : ∃ z, z = sA H 14 v96.toInt.toNat a1 := ⟨_, rfl⟩
    obtain rfl : H97 = (rS B98 x0 x1 x2 x3 x4) := by rw [eH97, eB98]; exact rS_cA
    have hIB98 : gI SX B98 := by rw [eB98]; exact gI_sA hI sx_14 (gz_any _)
    have jB98_11_9 : (fZ B98 11 9).toInt = (fZ H 11 9).toInt := by rw [eB98, fZ_sA]
    refine g_aload_n rfl ?_
    refine g_gfr (rS_I hIB98 (by first | with_reducible assumption | omega)) sx_11 rfl ?_
    refine g_aload_n rfl ?_
    refine g_gfi (rS_I hIB98 (by first | with_reducible assumption | omega)) sx_11 rfl (fun v99 ev99 lv99 uv99 => ?_)
    have iv99 : v99.toInt = (fZ B98 11 9).toInt := by rw [ev99, ← rS_o (by decide)]
    refine g_iload_n rfl ?_
    refine g_iastore (rS_I hIB98 (by first | with_reducible assumption | omega)) sx_15 (by first | with_reducible assumption | omega) (gz_any _) (fun H100 eH100 hIH100 => ?_)
    obtain ⟨B101, eB101⟩ : ∃ z, z = sA B98 15 v99.toInt.toNat a2 := ⟨_, rfl⟩
    obtain rfl : H100 = (rS B101 x0 x1 x2 x3 x4) := by rw [eH100, eB101]; exact rS_cA
    have hIB101 : gI SX B101 := by rw [eB101]; exact gI_sA hIB98 sx_15 (gz_any _)
    have jB101_11_9 : (fZ B101 11 9).toInt = (fZ B98 11 9).toInt := by rw [eB101, fZ_sA]
    refine g_aload_n rfl ?_
    refine g_gfr (rS_I hIB101 (by first | with_reducible assumption | omega)) sx_11 rfl ?_
    refine g_aload_n rfl ?_
    refine g_gfi (rS_I hIB101 (by first | with_reducible assumption | omega)) sx_11 rfl (fun v102 ev102 lv102 uv102 => ?_)
    have iv102 : v102.toInt = (fZ B101 11 9).toInt := by rw [ev102, ← rS_o (by decide)]
    refine g_iload_n rfl ?_
    refine g_iastore (rS_I hIB101 (by first | with_reducible assumption | omega)) sx_16 (by first | with_reducible assumption | omega) (by first | with_reducible assumption | omega) (fun H103 eH103 hIH103 => ?_)
    obtain ⟨B104, eB104⟩ : ∃ z, z = sA B101 16 v102.toInt.toNat a3 := ⟨_, rfl⟩
    obtain rfl : H103 = (rS B104 x0 x1 x2 x3 x4) := by rw [eH103, eB104]; exact rS_cA
    have hIB104 : gI SX B104 := by rw [eB104]; exact gI_sA hIB101 sx_16 (by first | with_reducible assumption | omega)
    have jB104_11_9 : (fZ B104 11 9).toInt = (fZ B101 11 9).toInt := by rw [eB104, fZ_sA]
    refine g_aload_n rfl ?_
    refine g_gfr (rS_I hIB104 (by first | with_reducible assumption | omega)) sx_11 rfl ?_
    refine g_aload_n rfl ?_
    refine g_gfi (rS_I hIB104 (by first | with_reducible assumption | omega)) sx_11 rfl (fun v105 ev105 lv105 uv105 => ?_)
    have iv105 : v105.toInt = (fZ B104 11 9).toInt := by rw [ev105, ← rS_o (by decide)]
    refine g_iload rfl ?_
    refine g_iastore (rS_I hIB104 (by first | with_reducible assumption | omega)) sx_17 (by first | with_reducible assumption | omega) (by first | with_reducible assumption | omega) (fun H106 eH106 hIH106 => ?_)
    obtain ⟨B107, eB107⟩ : ∃ z, z = sA B104 17 v105.toInt.toNat a4 := ⟨_, rfl⟩
    obtain rfl : H106 = (rS B107 x0 x1 x2 x3 x4) := by rw [eH106, eB107]; exact rS_cA
    have hIB107 : gI SX B107 := by rw [eB107]; exact gI_sA hIB104 sx_17 (by first | with_reducible assumption | omega)
    have jB107_11_9 : (fZ B107 11 9).toInt = (fZ B104 11 9).toInt := by rw [eB107, fZ_sA]
    refine g_aload_n rfl ?_
    refine g_gfr (rS_I hIB107 (by first | with_reducible assumption | omega)) sx_11 rfl ?_
    refine g_aload_n rfl ?_
    refine g_gfi (rS_I hIB107 (by first | with_reducible assumption | omega)) sx_11 rfl (fun v108 ev108 lv108 uv108 => ?_)
    have iv108 : v108.toInt = (fZ B107 11 9).toInt := by rw [ev108, ← rS_o (by decide)]
    refine g_iload rfl ?_
    refine g_iastore (rS_I hIB107 (by first | with_reducible assumption | omega)) sx_18 (by first | with_reducible assumption | omega) (gz_any _) (fun H109 eH109 hIH109 => ?_)
    obtain ⟨B110, eB110⟩ : ∃ z, z = sA B107 18 v108.toInt.toNat a5 := ⟨_, rfl⟩
    obtain rfl : H109 = (rS B110 x0 x1 x2 x3 x4) := by rw [eH109, eB110]; exact rS_cA
    have hIB110 : gI SX B110 := by rw [eB110]; exact gI_sA hIB107 sx_18 (gz_any _)
    have jB110_11_9 : (fZ B110 11 9).toInt = (fZ B107 11 9).toInt := by rw [eB110, fZ_sA]
    refine g_aload_n rfl ?_
    refine g_dup rfl ?_
    refine g_gfi (rS_I hIB110 (by first | with_reducible assumption | omega)) sx_11 rfl (fun v111 ev111 lv111 uv111 => ?_)
    have iv111 : v111.toInt = (fZ B110 11 9).toInt := by rw [ev111, ← rS_o (by decide)]
    refine g_iconst (by decide) (fun v112 kv112 => ?_)
    refine g_iadd (by first | with_reducible assumption | omega) (fun v113 ev113 => ?_)
    refine g_pfi (rS_I hIB110 (by first | with_reducible assumption | omega)) sx_11 rfl (by first | with_reducible assumption | omega) (fun H114 eH114 hIH114 => ?_)
    obtain ⟨B115, eB115⟩ : ∃ z, z = sF B110 11 9 v113 := ⟨_, rfl⟩
    obtain rfl : H114 = (rS B115 x0 x1 x2 x3 x4) := by rw [eH114, eB115]; exact rS_cF (by decide)
    have hIB115 : gI SX B115 := by rw [eB115]; exact gI_sF hIB110 sx_11 rfl (by first | with_reducible assumption | omega)
    have jB115_11_9 : (fZ B115 11 9).toInt = v113.toInt := by rw [eB115, fZ_sF_eq hIB110 sx_11 rfl]
    refine g_nop ?_
    have hJlate : JX B115 := JX_add (H1 := B98) (H2 := B101) (H3 := B104) (H4 := B107) (H5 := B110) (b := 11) (i := v96.toInt.toNat) (Or.inr rfl) hp2 (by first | with_reducible assumption | omega) hJ hIB98 hIB104 eB98 (by rw [eB101, show v99.toInt.toNat = v96.toInt.toNat by omega]) (by rw [eB104, show v102.toInt.toNat = v96.toInt.toNat by omega]) (by rw [eB107, show v105.toInt.toNat = v96.toInt.toNat by omega]) (by rw [eB110, show v108.toInt.toNat = v96.toInt.toNat by omega]) eB115
    exact g_ret ⟨rfl, B115, rfl, hIB115, hJlate, (frD_6 eB98 eB101 eB104 eB107 eB110 eB115), (ams_mk hI hIB98 hIB101 hIB104 hIB107 hIB110 hp0 eB98 eB101 eB104 eB107 eB110 eB115 (by first | with_reducible assumption | omega) (by first | with_reducible assumption | omega) (by first | with_reducible assumption | omega) (by first | with_reducible assumption | omega) (by first | with_reducible assumption | omega) (by first | with_reducible assumption | omega)), (wX_6 eB98 eB101 eB104 eB107 eB110 eB115)⟩
set_option maxRecDepth 4000 in
set_option maxHeartbeats 4000000 in
/-- X4.readPlace, exactly -/
theorem h_42 (H : mzH) (hI : gI SX H) (hJ : JX H) (x0 x1 x2 x3 x4 : Int32) (hx0 : 0 ≤ x0.toInt ∧ x0.toInt ≤ 900) {T : pT} {g : pG} {b : pB} (hp0 : tkH H T) (hp1 : rdX T g x0 x1 x2 x3 x4) (hp2 : bkX H 11 b) : gCall 42 [.ref 19] (rS H x0 x1 x2 x3 x4) (gRv (fun H' => ∃ B : mzH, ∃ y0 y1 y2 y3 y4 : Int32, H' = rS B y0 y1 y2 y3 y4 ∧ gI SX B ∧ JX B ∧ (0 ≤ y0.toInt ∧ y0.toInt ≤ 900) ∧ rdX T (pRdP b T g) y0 y1 y2 y3 y4 ∧ tkH B T ∧ bkX B 11 (bRdP b T g) ∧ frD H B ∧ wX B = if (pRdP b T g).f = 0 then xPl b.P (wX H) else wX H)) := by
  obtain ⟨r0, r1, r2, r3, r4, r5⟩ := id hp1
  have w0 := hp0.2
  have w1 := hp2.1
  have w2 := fZ_of hI sx_11 (f := 7) rfl
  refine gG_call [(0, .ref 19)] ⟨rfl, trivial⟩ ?_
  show gG 2 zB_42 (mzBlk zB_42 0) [(0, .ref 19)] [] (rS H x0 x1 x2 x3 x4) 0 0 _
  refine g_aload_n rfl ?_
  refine g_gfr (rS_I hI (by first | with_reducible assumption | omega)) sx_19 rfl ?_
  refine g_gfi (rS_I hI (by first | with_reducible assumption | omega)) sx_11 rfl (fun v765 ev765 lv765 uv765 => ?_)
  have iv765 : v765.toInt = (fZ H 11 7).toInt := by rw [ev765, ← rS_o (by decide)]
  refine g_bipush (by decide) (fun v766 kv766 => ?_)
  refine g_if2_ne (fun c767 => ?_) (fun c767 => ?_)
  · refine g_aload_n rfl ?_
    refine g_iconst (by decide) (fun v768 kv768 => ?_)
    refine g_iconst (by decide) (fun v769 kv769 => ?_)
    refine g_invvi (rS_I hI (by first | with_reducible assumption | omega)) sx_19 rfl rfl rfl rfl (f_50 v768 v769 H hI hJ x0 x1 x2 x3 x4 (by first | with_reducible assumption | omega) hp0 hp1) (fun v772 H770 r771 => ?_)
    obtain ⟨y773, y774, y775, y776, y777, rfl, by773, zp778, zp779⟩ := r771
    rw [kv768] at zp778
    rw [kv768] at zp779
    rw [kv769] at zp778
    rw [kv769] at zp779
    obtain ⟨razp778, rbzp778, rczp778, rdzp778, rezp778, rfzp778⟩ := id zp778
    have al780 : pRdP1 b T g = (pTake T 0 0 g) := by unfold pRdP1; first | rw [if_pos (by first | with_reducible assumption | omega)] | rw [if_neg (by first | with_reducible assumption | omega)]
    have zp781 := zp778
    rw [← al780] at zp781
    rw [← al780] at zp779
    obtain ⟨razp781, rbzp781, rczp781, rdzp781, rezp781, rfzp781⟩ := id zp781
    refine g_pop rfl ?_
    refine g_aload_n rfl ?_
    refine g_gfk (rS_I hI (by first | with_reducible assumption | omega)) sx_19 rfl (rS_g4 hI) ?_
    refine g_istore_n (l' := [(0, .ref 19), (1, .int y775)]) rfl rfl ?_
    refine g_aload_n rfl ?_
    refine g_gfk (rS_I hI (by first | with_reducible assumption | omega)) sx_19 rfl (rS_g3 hI) ?_
    refine g_bipush (by decide) (fun v782 kv782 => ?_)
    refine g_if2_ne (fun c783 => ?_) (fun c783 => ?_)
    · refine g_aload_n rfl ?_
      refine g_bipush (by decide) (fun v784 kv784 => ?_)
      refine g_bipush (by decide) (fun v785 kv785 => ?_)
      refine g_invvi (rS_I hI (by first | with_reducible assumption | omega)) sx_19 rfl rfl rfl rfl (f_50 v784 v785 H hI hJ y773 y774 y775 y776 y777 (by first | with_reducible assumption | omega) hp0 zp781) (fun v788 H786 r787 => ?_)
      obtain ⟨y789, y790, y791, y792, y793, rfl, by789, zp794, zp795⟩ := r787
      rw [kv784] at zp794
      rw [kv784] at zp795
      rw [kv785] at zp794
      rw [kv785] at zp795
      obtain ⟨razp794, rbzp794, rczp794, rdzp794, rezp794, rfzp794⟩ := id zp794
      have al796 : pRdP b T g = (pTake T 18 18 (pRdP1 b T g)) := by unfold pRdP; first | rw [if_pos (by first | with_reducible assumption | omega)] | rw [if_neg (by first | with_reducible assumption | omega)]
      have zp797 := zp794
      rw [← al796] at zp797
      rw [← al796] at zp795
      obtain ⟨razp797, rbzp797, rczp797, rdzp797, rezp797, rfzp797⟩ := id zp797
      refine g_pop rfl ?_
      refine g_aload_n rfl ?_
      refine g_gfk (rS_I hI (by first | with_reducible assumption | omega)) sx_19 rfl (rS_g5 hI) ?_
      refine g_if_ne (fun c798 => ?_) (fun c798 => ?_)
      · exact g_ret ⟨rfl, H, y789, y790, y791, y792, y793, rfl, hI, hJ, (by first | with_reducible assumption | omega), zp797, hp0, (by unfold bRdP; rw [if_neg (by first | with_reducible assumption | omega)]; exact hp2), (fun _ _ => rfl), (by rw [if_neg (by first | with_reducible assumption | omega)])⟩
      · refine g_aload_n rfl ?_
        refine g_gfr (rS_I hI (by first | with_reducible assumption | omega)) sx_19 rfl ?_
        refine g_iload_n rfl ?_
        refine g_invvv (rS_I hI (by first | with_reducible assumption | omega)) sx_11 rfl rfl rfl rfl (h_14 y775 H hI hJ y789 y790 y791 y792 y793 (by first | with_reducible assumption | omega) hp2 (by first | with_reducible assumption | omega)) (fun H799 r800 => ?_)
        obtain ⟨B804, rfl, hIB804, hJB804, zp801, zp802, zp803⟩ := r800
        refine g_nop ?_
        exact g_ret ⟨rfl, B804, y789, y790, y791, y792, y793, rfl, hIB804, hJB804, (by first | with_reducible assumption | omega), zp797, (tk_fr hp0 zp801), (by unfold bRdP; rw [if_pos (by first | with_reducible assumption | omega)]; rw [← rczp781]; exact zp802), zp801, (by rw [if_pos (by first | with_reducible assumption | omega)]; exact zp803)⟩
    · refine g_aload_n rfl ?_
      refine g_gfr (rS_I hI (by first | with_reducible assumption | omega)) sx_19 rfl ?_
      refine g_iload_n rfl ?_
      refine g_invvi (rS_I hI (by first | with_reducible assumption | omega)) sx_11 rfl rfl rfl rfl (f_13 y775 H hI hJ y773 y774 y775 y776 y777 (by first | with_reducible assumption | omega) hp2) (fun v807 H805 r806 => ?_)
      obtain ⟨rfl, bv807, zp808⟩ := r806
      rw [rczp781] at zp808
      refine g_bipush (by decide) (fun v809 kv809 => ?_)
      refine g_if2_eq (fun c810 => ?_) (fun c810 => ?_)
      · refine g_aload_n rfl ?_
        refine g_bipush (by decide) (fun v811 kv811 => ?_)
        refine g_bipush (by decide) (fun v812 kv812 => ?_)
        refine g_invvi (rS_I hI (by first | with_reducible assumption | omega)) sx_19 rfl rfl rfl rfl (f_50 v811 v812 H hI hJ y773 y774 y775 y776 y777 (by first | with_reducible assumption | omega) hp0 zp781) (fun v815 H813 r814 => ?_)
        obtain ⟨y816, y817, y818, y819, y820, rfl, by816, zp821, zp822⟩ := r814
        rw [kv811] at zp821
        rw [kv811] at zp822
        rw [kv812] at zp821
        rw [kv812] at zp822
        obtain ⟨razp821, rbzp821, rczp821, rdzp821, rezp821, rfzp821⟩ := id zp821
        have al823 : pRdP b T g = (pTake T 18 18 (pRdP1 b T g)) := by unfold pRdP; first | rw [if_pos (by first | with_reducible assumption | omega)] | rw [if_neg (by first | with_reducible assumption | omega)]
        have zp824 := zp821
        rw [← al823] at zp824
        rw [← al823] at zp822
        obtain ⟨razp824, rbzp824, rczp824, rdzp824, rezp824, rfzp824⟩ := id zp824
        refine g_pop rfl ?_
        refine g_aload_n rfl ?_
        refine g_gfk (rS_I hI (by first | with_reducible assumption | omega)) sx_19 rfl (rS_g5 hI) ?_
        refine g_if_ne (fun c825 => ?_) (fun c825 => ?_)
        · exact g_ret ⟨rfl, H, y816, y817, y818, y819, y820, rfl, hI, hJ, (by first | with_reducible assumption | omega), zp824, hp0, (by unfold bRdP; rw [if_neg (by first | with_reducible assumption | omega)]; exact hp2), (fun _ _ => rfl), (by rw [if_neg (by first | with_reducible assumption | omega)])⟩
        · refine g_aload_n rfl ?_
          refine g_gfr (rS_I hI (by first | with_reducible assumption | omega)) sx_19 rfl ?_
          refine g_iload_n rfl ?_
          refine g_invvv (rS_I hI (by first | with_reducible assumption | omega)) sx_11 rfl rfl rfl rfl (h_14 y775 H hI hJ y816 y817 y818 y819 y820 (by first | with_reducible assumption | omega) hp2 (by first | with_reducible assumption | omega)) (fun H826 r827 => ?_)
          obtain ⟨B831, rfl, hIB831, hJB831, zp828, zp829, zp830⟩ := r827
          refine g_nop ?_
          exact g_ret ⟨rfl, B831, y816, y817, y818, y819, y820, rfl, hIB831, hJB831, (by first | with_reducible assumption | omega), zp824, (tk_fr hp0 zp828), (by unfold bRdP; rw [if_pos (by first | with_reducible assumption | omega)]; rw [← rczp781]; exact zp829), zp828, (by rw [if_pos (by first | with_reducible assumption | omega)]; exact zp830)⟩
      · refine g_aload_n rfl ?_
        refine g_iconst (by decide) (fun v832 kv832 => ?_)
        refine g_invvv (rS_I hI (by first | with_reducible assumption | omega)) sx_19 rfl rfl rfl rfl (f_40 v832 (by first | with_reducible assumption | omega) H hI hJ y773 y774 y775 y776 y777 (by first | with_reducible assumption | omega) hp0 zp781) (fun H833 r834 => ?_)
        obtain ⟨y835, y836, rfl, zp837⟩ := r834
        rw [kv832] at zp837
        obtain ⟨razp837, rbzp837, rczp837, rdzp837, rezp837, rfzp837⟩ := id zp837
        have nzp837 := pF_ne (T := T) (g := (pRdP1 b T g)) (n := 3) (by first | with_reducible assumption | omega)
        refine g_nop ?_
        refine g_aload_n rfl ?_
        refine g_bipush (by decide) (fun v838 kv838 => ?_)
        refine g_bipush (by decide) (fun v839 kv839 => ?_)
        refine g_invvi (rS_I hI (by first | with_reducible assumption | omega)) sx_19 rfl rfl rfl rfl (f_50 v838 v839 H hI hJ y773 y774 y775 y835 y836 (by first | with_reducible assumption | omega) hp0 zp837) (fun v842 H840 r841 => ?_)
        obtain ⟨y843, y844, y845, y846, y847, rfl, by843, zp848, zp849⟩ := r841
        rw [kv838] at zp848
        rw [kv838] at zp849
        rw [kv839] at zp848
        rw [kv839] at zp849
        obtain ⟨razp848, rbzp848, rczp848, rdzp848, rezp848, rfzp848⟩ := id zp848
        have al850 : pRdP b T g = (pTake T 18 18 (pFail T 3 (pRdP1 b T g))) := by unfold pRdP; first | rw [if_pos (by first | with_reducible assumption | omega)] | rw [if_neg (by first | with_reducible assumption | omega)]
        have zp851 := zp848
        rw [← al850] at zp851
        rw [← al850] at zp849
        obtain ⟨razp851, rbzp851, rczp851, rdzp851, rezp851, rfzp851⟩ := id zp851
        refine g_pop rfl ?_
        refine g_aload_n rfl ?_
        refine g_gfk (rS_I hI (by first | with_reducible assumption | omega)) sx_19 rfl (rS_g5 hI) ?_
        refine g_if_ne (fun c852 => ?_) (fun c852 => ?_)
        · exact g_ret ⟨rfl, H, y843, y844, y845, y846, y847, rfl, hI, hJ, (by first | with_reducible assumption | omega), zp851, hp0, (by unfold bRdP; rw [if_neg (by first | with_reducible assumption | omega)]; exact hp2), (fun _ _ => rfl), (by rw [if_neg (by first | with_reducible assumption | omega)])⟩
        · refine g_aload_n rfl ?_
          refine g_gfr (rS_I hI (by first | with_reducible assumption | omega)) sx_19 rfl ?_
          refine g_iload_n rfl ?_
          refine g_invvv (rS_I hI (by first | with_reducible assumption | omega)) sx_11 rfl rfl rfl rfl (h_14 y775 H hI hJ y843 y844 y845 y846 y847 (by first | with_reducible assumption | omega) hp2 (by first | with_reducible assumption | omega)) (fun H853 r854 => ?_)
          obtain ⟨B858, rfl, hIB858, hJB858, zp855, zp856, zp857⟩ := r854
          refine g_nop ?_
          exact g_ret ⟨rfl, B858, y843, y844, y845, y846, y847, rfl, hIB858, hJB858, (by first | with_reducible assumption | omega), zp851, (tk_fr hp0 zp855), (by unfold bRdP; rw [if_pos (by first | with_reducible assumption | omega)]; rw [← rczp781]; exact zp856), zp855, (by rw [if_pos (by first | with_reducible assumption | omega)]; exact zp857)⟩
  · refine g_aload_n rfl ?_
    refine g_iconst (by decide) (fun v859 kv859 => ?_)
    refine g_invvv (rS_I hI (by first | with_reducible assumption | omega)) sx_19 rfl rfl rfl rfl (f_40 v859 (by first | with_reducible assumption | omega) H hI hJ x0 x1 x2 x3 x4 (by first | with_reducible assumption | omega) hp0 hp1) (fun H860 r861 => ?_)
    obtain ⟨y862, y863, rfl, zp864⟩ := r861
    rw [kv859] at zp864
    obtain ⟨razp864, rbzp864, rczp864, rdzp864, rezp864, rfzp864⟩ := id zp864
    have nzp864 := pF_ne (T := T) (g := g) (n := 2) (by first | with_reducible assumption | omega)
    refine g_nop ?_
    refine g_aload_n rfl ?_
    refine g_iconst (by decide) (fun v865 kv865 => ?_)
    refine g_iconst (by decide) (fun v866 kv866 => ?_)
    refine g_invvi (rS_I hI (by first | with_reducible assumption | omega)) sx_19 rfl rfl rfl rfl (f_50 v865 v866 H hI hJ x0 x1 x2 y862 y863 (by first | with_reducible assumption | omega) hp0 zp864) (fun v869 H867 r868 => ?_)
    obtain ⟨y870, y871, y872, y873, y874, rfl, by870, zp875, zp876⟩ := r868
    rw [kv865] at zp875
    rw [kv865] at zp876
    rw [kv866] at zp875
    rw [kv866] at zp876
    obtain ⟨razp875, rbzp875, rczp875, rdzp875, rezp875, rfzp875⟩ := id zp875
    have al877 : pRdP1 b T g = (pTake T 0 0 (pFail T 2 g)) := by unfold pRdP1; first | rw [if_pos (by first | with_reducible assumption | omega)] | rw [if_neg (by first | with_reducible assumption | omega)]
    have zp878 := zp875
    rw [← al877] at zp878
    rw [← al877] at zp876
    obtain ⟨razp878, rbzp878, rczp878, rdzp878, rezp878, rfzp878⟩ := id zp878
    refine g_pop rfl ?_
    refine g_aload_n rfl ?_
    refine g_gfk (rS_I hI (by first | with_reducible assumption | omega)) sx_19 rfl (rS_g4 hI) ?_
    refine g_istore_n (l' := [(0, .ref 19), (1, .int y872)]) rfl rfl ?_
    refine g_aload_n rfl ?_
    refine g_gfk (rS_I hI (by first | with_reducible assumption | omega)) sx_19 rfl (rS_g3 hI) ?_
    refine g_bipush (by decide) (fun v879 kv879 => ?_)
    refine g_if2_ne (fun c880 => ?_) (fun c880 => ?_)
    · refine g_aload_n rfl ?_
      refine g_bipush (by decide) (fun v881 kv881 => ?_)
      refine g_bipush (by decide) (fun v882 kv882 => ?_)
      refine g_invvi (rS_I hI (by first | with_reducible assumption | omega)) sx_19 rfl rfl rfl rfl (f_50 v881 v882 H hI hJ y870 y871 y872 y873 y874 (by first | with_reducible assumption | omega) hp0 zp878) (fun v885 H883 r884 => ?_)
      obtain ⟨y886, y887, y888, y889, y890, rfl, by886, zp891, zp892⟩ := r884
      rw [kv881] at zp891
      rw [kv881] at zp892
      rw [kv882] at zp891
      rw [kv882] at zp892
      obtain ⟨razp891, rbzp891, rczp891, rdzp891, rezp891, rfzp891⟩ := id zp891
      have al893 : pRdP b T g = (pTake T 18 18 (pRdP1 b T g)) := by unfold pRdP; first | rw [if_pos (by first | with_reducible assumption | omega)] | rw [if_neg (by first | with_reducible assumption | omega)]
      have zp894 := zp891
      rw [← al893] at zp894
      rw [← al893] at zp892
      obtain ⟨razp894, rbzp894, rczp894, rdzp894, rezp894, rfzp894⟩ := id zp894
      refine g_pop rfl ?_
      refine g_aload_n rfl ?_
      refine g_gfk (rS_I hI (by first | with_reducible assumption | omega)) sx_19 rfl (rS_g5 hI) ?_
      refine g_if_ne (fun c895 => ?_) (fun c895 => ?_)
      · exact g_ret ⟨rfl, H, y886, y887, y888, y889, y890, rfl, hI, hJ, (by first | with_reducible assumption | omega), zp894, hp0, (by unfold bRdP; rw [if_neg (by first | with_reducible assumption | omega)]; exact hp2), (fun _ _ => rfl), (by rw [if_neg (by first | with_reducible assumption | omega)])⟩
      · refine g_aload_n rfl ?_
        refine g_gfr (rS_I hI (by first | with_reducible assumption | omega)) sx_19 rfl ?_
        refine g_iload_n rfl ?_
        refine g_invvv (rS_I hI (by first | with_reducible assumption | omega)) sx_11 rfl rfl rfl rfl (h_14 y872 H hI hJ y886 y887 y888 y889 y890 (by first | with_reducible assumption | omega) hp2 (by first | with_reducible assumption | omega)) (fun H896 r897 => ?_)
        obtain ⟨B901, rfl, hIB901, hJB901, zp898, zp899, zp900⟩ := r897
        refine g_nop ?_
        exact g_ret ⟨rfl, B901, y886, y887, y888, y889, y890, rfl, hIB901, hJB901, (by first | with_reducible assumption | omega), zp894, (tk_fr hp0 zp898), (by unfold bRdP; rw [if_pos (by first | with_reducible assumption | omega)]; rw [← rczp878]; exact zp899), zp898, (by rw [if_pos (by first | with_reducible assumption | omega)]; exact zp900)⟩
    · refine g_aload_n rfl ?_
      refine g_gfr (rS_I hI (by first | with_reducible assumption | omega)) sx_19 rfl ?_
      refine g_iload_n rfl ?_
      refine g_invvi (rS_I hI (by first | with_reducible assumption | omega)) sx_11 rfl rfl rfl rfl (f_13 y872 H hI hJ y870 y871 y872 y873 y874 (by first | with_reducible assumption | omega) hp2) (fun v904 H902 r903 => ?_)
      obtain ⟨rfl, bv904, zp905⟩ := r903
      rw [rczp878] at zp905
      refine g_bipush (by decide) (fun v906 kv906 => ?_)
      refine g_if2_eq (fun c907 => ?_) (fun c907 => ?_)
      · refine g_aload_n rfl ?_
        refine g_bipush (by decide) (fun v908 kv908 => ?_)
        refine g_bipush (by decide) (fun v909 kv909 => ?_)
        refine g_invvi (rS_I hI (by first | with_reducible assumption | omega)) sx_19 rfl rfl rfl rfl (f_50 v908 v909 H hI hJ y870 y871 y872 y873 y874 (by first | with_reducible assumption | omega) hp0 zp878) (fun v912 H910 r911 => ?_)
        obtain ⟨y913, y914, y915, y916, y917, rfl, by913, zp918, zp919⟩ := r911
        rw [kv908] at zp918
        rw [kv908] at zp919
        rw [kv909] at zp918
        rw [kv909] at zp919
        obtain ⟨razp918, rbzp918, rczp918, rdzp918, rezp918, rfzp918⟩ := id zp918
        have al920 : pRdP b T g = (pTake T 18 18 (pRdP1 b T g)) := by unfold pRdP; first | rw [if_pos (by first | with_reducible assumption | omega)] | rw [if_neg (by first | with_reducible assumption | omega)]
        have zp921 := zp918
        rw [← al920] at zp921
        rw [← al920] at zp919
        obtain ⟨razp921, rbzp921, rczp921, rdzp921, rezp921, rfzp921⟩ := id zp921
        refine g_pop rfl ?_
        refine g_aload_n rfl ?_
        refine g_gfk (rS_I hI (by first | with_reducible assumption | omega)) sx_19 rfl (rS_g5 hI) ?_
        refine g_if_ne (fun c922 => ?_) (fun c922 => ?_)
        · exact g_ret ⟨rfl, H, y913, y914, y915, y916, y917, rfl, hI, hJ, (by first | with_reducible assumption | omega), zp921, hp0, (by unfold bRdP; rw [if_neg (by first | with_reducible assumption | omega)]; exact hp2), (fun _ _ => rfl), (by rw [if_neg (by first | with_reducible assumption | omega)])⟩
        · refine g_aload_n rfl ?_
          refine g_gfr (rS_I hI (by first | with_reducible assumption | omega)) sx_19 rfl ?_
          refine g_iload_n rfl ?_
          refine g_invvv (rS_I hI (by first | with_reducible assumption | omega)) sx_11 rfl rfl rfl rfl (h_14 y872 H hI hJ y913 y914 y915 y916 y917 (by first | with_reducible assumption | omega) hp2 (by first | with_reducible assumption | omega)) (fun H923 r924 => ?_)
          obtain ⟨B928, rfl, hIB928, hJB928, zp925, zp926, zp927⟩ := r924
          refine g_nop ?_
          exact g_ret ⟨rfl, B928, y913, y914, y915, y916, y917, rfl, hIB928, hJB928, (by first | with_reducible assumption | omega), zp921, (tk_fr hp0 zp925), (by unfold bRdP; rw [if_pos (by first | with_reducible assumption | omega)]; rw [← rczp878]; exact zp926), zp925, (by rw [if_pos (by first | with_reducible assumption | omega)]; exact zp927)⟩
      · refine g_aload_n rfl ?_
        refine g_iconst (by decide) (fun v929 kv929 => ?_)
        refine g_invvv (rS_I hI (by first | with_reducible assumption | omega)) sx_19 rfl rfl rfl rfl (f_40 v929 (by first | with_reducible assumption | omega) H hI hJ y870 y871 y872 y873 y874 (by first | with_reducible assumption | omega) hp0 zp878) (fun H930 r931 => ?_)
        obtain ⟨y932, y933, rfl, zp934⟩ := r931
        rw [kv929] at zp934
        obtain ⟨razp934, rbzp934, rczp934, rdzp934, rezp934, rfzp934⟩ := id zp934
        have nzp934 := pF_ne (T := T) (g := (pRdP1 b T g)) (n := 3) (by first | with_reducible assumption | omega)
        refine g_nop ?_
        refine g_aload_n rfl ?_
        refine g_bipush (by decide) (fun v935 kv935 => ?_)
        refine g_bipush (by decide) (fun v936 kv936 => ?_)
        refine g_invvi (rS_I hI (by first | with_reducible assumption | omega)) sx_19 rfl rfl rfl rfl (f_50 v935 v936 H hI hJ y870 y871 y872 y932 y933 (by first | with_reducible assumption | omega) hp0 zp934) (fun v939 H937 r938 => ?_)
        obtain ⟨y940, y941, y942, y943, y944, rfl, by940, zp945, zp946⟩ := r938
        rw [kv935] at zp945
        rw [kv935] at zp946
        rw [kv936] at zp945
        rw [kv936] at zp946
        obtain ⟨razp945, rbzp945, rczp945, rdzp945, rezp945, rfzp945⟩ := id zp945
        have al947 : pRdP b T g = (pTake T 18 18 (pFail T 3 (pRdP1 b T g))) := by unfold pRdP; first | rw [if_pos (by first | with_reducible assumption | omega)] | rw [if_neg (by first | with_reducible assumption | omega)]
        have zp948 := zp945
        rw [← al947] at zp948
        rw [← al947] at zp946
        obtain ⟨razp948, rbzp948, rczp948, rdzp948, rezp948, rfzp948⟩ := id zp948
        refine g_pop rfl ?_
        refine g_aload_n rfl ?_
        refine g_gfk (rS_I hI (by first | with_reducible assumption | omega)) sx_19 rfl (rS_g5 hI) ?_
        refine g_if_ne (fun c949 => ?_) (fun c949 => ?_)
        · exact g_ret ⟨rfl, H, y940, y941, y942, y943, y944, rfl, hI, hJ, (by first | with_reducible assumption | omega), zp948, hp0, (by unfold bRdP; rw [if_neg (by first | with_reducible assumption | omega)]; exact hp2), (fun _ _ => rfl), (by rw [if_neg (by first | with_reducible assumption | omega)])⟩
        · refine g_aload_n rfl ?_
          refine g_gfr (rS_I hI (by first | with_reducible assumption | omega)) sx_19 rfl ?_
          refine g_iload_n rfl ?_
          refine g_invvv (rS_I hI (by first | with_reducible assumption | omega)) sx_11 rfl rfl rfl rfl (h_14 y872 H hI hJ y940 y941 y942 y943 y944 (by first | with_reducible assumption | omega) hp2 (by first | with_reducible assumption | omega)) (fun H950 r951 => ?_)
          obtain ⟨B955, rfl, hIB955, hJB955, zp952, zp953, zp954⟩ := r951
          refine g_nop ?_
          exact g_ret ⟨rfl, B955, y940, y941, y942, y943, y944, rfl, hIB955, hJB955, (by first | with_reducible assumption | omega), zp948, (tk_fr hp0 zp952), (by unfold bRdP; rw [if_pos (by first | with_reducible assumption | omega)]; rw [← rczp878]; exact zp953), zp952, (by rw [if_pos (by first | with_reducible assumption | omega)]; exact zp954)⟩
set_option maxRecDepth 4000 in
set_option maxHeartbeats 4000000 in
/-- X4.readRoad, exactly -/
theorem h_43 (H : mzH) (hI : gI SX H) (hJ : JX H) (x0 x1 x2 x3 x4 : Int32) (hx0 : 0 ≤ x0.toInt ∧ x0.toInt ≤ 900) {T : pT} {g : pG} {b : pB} (hp0 : tkH H T) (hp1 : rdX T g x0 x1 x2 x3 x4) (hp2 : bkX H 11 b) : gCall 43 [.ref 19] (rS H x0 x1 x2 x3 x4) (gRv (fun H' => ∃ B : mzH, ∃ y0 y1 y2 y3 y4 : Int32, H' = rS B y0 y1 y2 y3 y4 ∧ gI SX B ∧ JX B ∧ (0 ≤ y0.toInt ∧ y0.toInt ≤ 900) ∧ rdX T (pRdR b T g) y0 y1 y2 y3 y4 ∧ tkH B T ∧ bkX B 11 (bRdR b T g) ∧ frD H B ∧ wX B = if (pRdR b T g).f = 0 then xRd (wX H) (pPl b.nm b.P T (pRdR1 b T g)).toNat (pPl b.nm b.P T (pRdR2 b T g)).toNat (T.V (pRdR3 b T g).t) else wX H)) := by
  obtain ⟨r0, r1, r2, r3, r4, r5⟩ := id hp1
  have w0 := hp0.2
  have w1 := hp2.2.1
  have w2 := hp2.2.2.2.2.2.2.2.2
  have w7 := hp2.1
  refine gG_call [(0, .ref 19)] ⟨rfl, trivial⟩ ?_
  show gG 4 zB_43 (mzBlk zB_43 0) [(0, .ref 19)] [] (rS H x0 x1 x2 x3 x4) 0 0 _
  refine g_aload_n rfl ?_
  refine g_gfr (rS_I hI (by first | with_reducible assumption | omega)) sx_19 rfl ?_
  refine g_gfi (rS_I hI (by first | with_reducible assumption | omega)) sx_11 rfl (fun v517 ev517 lv517 uv517 => ?_)
  have iv517 : v517.toInt = (fZ H 11 8).toInt := by rw [ev517, ← rS_o (by decide)]
  refine g_bipush (by decide) (fun v518 kv518 => ?_)
  refine g_if2_ne (fun c519 => ?_) (fun c519 => ?_)
  · refine g_aload_n rfl ?_
    refine g_iconst (by decide) (fun v520 kv520 => ?_)
    refine g_iconst (by decide) (fun v521 kv521 => ?_)
    refine g_invvi (rS_I hI (by first | with_reducible assumption | omega)) sx_19 rfl rfl rfl rfl (f_50 v520 v521 H hI hJ x0 x1 x2 x3 x4 (by first | with_reducible assumption | omega) hp0 hp1) (fun v524 H522 r523 => ?_)
    obtain ⟨y525, y526, y527, y528, y529, rfl, by525, zp530, zp531⟩ := r523
    rw [kv520] at zp530
    rw [kv520] at zp531
    rw [kv521] at zp530
    rw [kv521] at zp531
    obtain ⟨razp530, rbzp530, rczp530, rdzp530, rezp530, rfzp530⟩ := id zp530
    have al532 : pRdR1 b T g = (pTake T 1 1 g) := by unfold pRdR1; first | rw [if_pos (by first | with_reducible assumption | omega)] | rw [if_neg (by first | with_reducible assumption | omega)]
    have zp533 := zp530
    rw [← al532] at zp533
    rw [← al532] at zp531
    obtain ⟨razp533, rbzp533, rczp533, rdzp533, rezp533, rfzp533⟩ := id zp533
    refine g_pop rfl ?_
    refine g_aload_n rfl ?_
    refine g_iconst (by decide) (fun v534 kv534 => ?_)
    refine g_invvi (rS_I hI (by first | with_reducible assumption | omega)) sx_19 rfl rfl rfl rfl (f_49 v534 H hI hJ y525 y526 y527 y528 y529 (by first | with_reducible assumption | omega) hp0 zp533 hp2) (fun v537 H535 r536 => ?_)
    obtain ⟨y538, y539, y540, y541, y542, rfl, bv537, by538, zp543, zp544⟩ := r536
    rw [kv534] at zp543
    obtain ⟨razp543, rbzp543, rczp543, rdzp543, rezp543, rfzp543⟩ := id zp543
    have kzp543 := pP_ok (nm := b.nm) (P := b.P) (T := T) (but := -1) (g := (pRdR1 b T g))
    have al545 : pRdR2 b T g = (pPlc b.nm b.P T (-1) (pRdR1 b T g)) := by rfl
    have zp546 := zp543
    rw [← al545] at zp546
    rw [← al545] at kzp543
    obtain ⟨razp546, rbzp546, rczp546, rdzp546, rezp546, rfzp546⟩ := id zp546
    have rg1 := pl_rng (nm := b.nm) (P := b.P) (T := T) (g := pRdR1 b T g)
    refine g_istore_n (l' := [(0, .ref 19), (1, .int v537)]) rfl rfl ?_
    refine g_aload_n rfl ?_
    refine g_iload_n rfl ?_
    refine g_invvi (rS_I hI (by first | with_reducible assumption | omega)) sx_19 rfl rfl rfl rfl (f_49 v537 H hI hJ y538 y539 y540 y541 y542 (by first | with_reducible assumption | omega) hp0 zp546 hp2) (fun v549 H547 r548 => ?_)
    obtain ⟨y550, y551, y552, y553, y554, rfl, bv549, by550, zp555, zp556⟩ := r548
    obtain ⟨razp555, rbzp555, rczp555, rdzp555, rezp555, rfzp555⟩ := id zp555
    have kzp555 := pP_ok (nm := b.nm) (P := b.P) (T := T) (but := v537.toInt) (g := (pRdR2 b T g))
    have al557 : pRdR3 b T g = (pPlc b.nm b.P T v537.toInt (pRdR2 b T g)) := by unfold pRdR3; rw [← zp544]
    have zp558 := zp555
    rw [← al557] at zp558
    rw [← al557] at kzp555
    obtain ⟨razp558, rbzp558, rczp558, rdzp558, rezp558, rfzp558⟩ := id zp558
    have rg2 := pl_rng (nm := b.nm) (P := b.P) (T := T) (g := pRdR2 b T g)
    refine g_istore_n (l' := [(0, .ref 19), (1, .int v537), (2, .int v549)]) rfl rfl ?_
    refine g_aload_n rfl ?_
    refine g_iconst (by decide) (fun v559 kv559 => ?_)
    refine g_bipush (by decide) (fun v560 kv560 => ?_)
    refine g_invvi (rS_I hI (by first | with_reducible assumption | omega)) sx_19 rfl rfl rfl rfl (f_48 v559 v560 H hI hJ y550 y551 y552 y553 y554 (by first | with_reducible assumption | omega) hp0 zp558) (fun v563 H561 r562 => ?_)
    obtain ⟨y564, y565, y566, y567, y568, rfl, by564, zp569, zp570⟩ := r562
    rw [kv559] at zp569
    rw [kv560] at zp569
    obtain ⟨razp569, rbzp569, rczp569, rdzp569, rezp569, rfzp569⟩ := id zp569
    have kzp569 := pN_ok (T := T) (lo := 1) (hi := 99) (g := (pRdR3 b T g))
    have al571 : pRdR b T g = (pNumb T 1 99 (pRdR3 b T g)) := by rfl
    have zp572 := zp569
    rw [← al571] at zp572
    rw [← al571] at kzp569
    obtain ⟨razp572, rbzp572, rczp572, rdzp572, rezp572, rfzp572⟩ := id zp572
    refine g_istore_n (l' := [(0, .ref 19), (1, .int v537), (2, .int v549), (3, .int v563)]) rfl rfl ?_
    refine g_aload_n rfl ?_
    refine g_gfk (rS_I hI (by first | with_reducible assumption | omega)) sx_19 rfl (rS_g5 hI) ?_
    refine g_if_ne (fun c573 => ?_) (fun c573 => ?_)
    · exact g_ret ⟨rfl, H, y564, y565, y566, y567, y568, rfl, hI, hJ, (by first | with_reducible assumption | omega), zp572, hp0, (by unfold bRdR; rw [if_neg (by first | with_reducible assumption | omega)]; exact hp2), (fun _ _ => rfl), (by rw [if_neg (by first | with_reducible assumption | omega)])⟩
    · refine g_aload_n rfl ?_
      refine g_gfr (rS_I hI (by first | with_reducible assumption | omega)) sx_19 rfl ?_
      refine g_iload_n rfl ?_
      refine g_iload_n rfl ?_
      refine g_iload_n rfl ?_
      refine g_invvv (rS_I hI (by first | with_reducible assumption | omega)) sx_11 rfl rfl rfl rfl (h_15 v537 v549 v563 H hI hJ y564 y565 y566 y567 y568 (by first | with_reducible assumption | omega) hp2 (by first | with_reducible assumption | omega) (by first | with_reducible assumption | omega)) (fun H574 r575 => ?_)
      obtain ⟨B579, rfl, hIB579, hJB579, zp576, zp577, zp578⟩ := r575
      refine g_nop ?_
      exact g_ret ⟨rfl, B579, y564, y565, y566, y567, y568, rfl, hIB579, hJB579, (by first | with_reducible assumption | omega), zp572, (tk_fr hp0 zp576), (by unfold bRdR; rw [if_pos (by first | with_reducible assumption | omega)]; exact zp577), zp576, (by rw [if_pos (by first | with_reducible assumption | omega), ← zp544, ← zp556, ← zp570]; exact zp578)⟩
  · refine g_aload_n rfl ?_
    refine g_iconst (by decide) (fun v580 kv580 => ?_)
    refine g_invvv (rS_I hI (by first | with_reducible assumption | omega)) sx_19 rfl rfl rfl rfl (f_40 v580 (by first | with_reducible assumption | omega) H hI hJ x0 x1 x2 x3 x4 (by first | with_reducible assumption | omega) hp0 hp1) (fun H581 r582 => ?_)
    obtain ⟨y583, y584, rfl, zp585⟩ := r582
    rw [kv580] at zp585
    obtain ⟨razp585, rbzp585, rczp585, rdzp585, rezp585, rfzp585⟩ := id zp585
    have nzp585 := pF_ne (T := T) (g := g) (n := 2) (by first | with_reducible assumption | omega)
    refine g_nop ?_
    refine g_aload_n rfl ?_
    refine g_iconst (by decide) (fun v586 kv586 => ?_)
    refine g_iconst (by decide) (fun v587 kv587 => ?_)
    refine g_invvi (rS_I hI (by first | with_reducible assumption | omega)) sx_19 rfl rfl rfl rfl (f_50 v586 v587 H hI hJ x0 x1 x2 y583 y584 (by first | with_reducible assumption | omega) hp0 zp585) (fun v590 H588 r589 => ?_)
    obtain ⟨y591, y592, y593, y594, y595, rfl, by591, zp596, zp597⟩ := r589
    rw [kv586] at zp596
    rw [kv586] at zp597
    rw [kv587] at zp596
    rw [kv587] at zp597
    obtain ⟨razp596, rbzp596, rczp596, rdzp596, rezp596, rfzp596⟩ := id zp596
    have al598 : pRdR1 b T g = (pTake T 1 1 (pFail T 2 g)) := by unfold pRdR1; first | rw [if_pos (by first | with_reducible assumption | omega)] | rw [if_neg (by first | with_reducible assumption | omega)]
    have zp599 := zp596
    rw [← al598] at zp599
    rw [← al598] at zp597
    obtain ⟨razp599, rbzp599, rczp599, rdzp599, rezp599, rfzp599⟩ := id zp599
    refine g_pop rfl ?_
    refine g_aload_n rfl ?_
    refine g_iconst (by decide) (fun v600 kv600 => ?_)
    refine g_invvi (rS_I hI (by first | with_reducible assumption | omega)) sx_19 rfl rfl rfl rfl (f_49 v600 H hI hJ y591 y592 y593 y594 y595 (by first | with_reducible assumption | omega) hp0 zp599 hp2) (fun v603 H601 r602 => ?_)
    obtain ⟨y604, y605, y606, y607, y608, rfl, bv603, by604, zp609, zp610⟩ := r602
    rw [kv600] at zp609
    obtain ⟨razp609, rbzp609, rczp609, rdzp609, rezp609, rfzp609⟩ := id zp609
    have kzp609 := pP_ok (nm := b.nm) (P := b.P) (T := T) (but := -1) (g := (pRdR1 b T g))
    have al611 : pRdR2 b T g = (pPlc b.nm b.P T (-1) (pRdR1 b T g)) := by rfl
    have zp612 := zp609
    rw [← al611] at zp612
    rw [← al611] at kzp609
    obtain ⟨razp612, rbzp612, rczp612, rdzp612, rezp612, rfzp612⟩ := id zp612
    have rg1 := pl_rng (nm := b.nm) (P := b.P) (T := T) (g := pRdR1 b T g)
    refine g_istore_n (l' := [(0, .ref 19), (1, .int v603)]) rfl rfl ?_
    refine g_aload_n rfl ?_
    refine g_iload_n rfl ?_
    refine g_invvi (rS_I hI (by first | with_reducible assumption | omega)) sx_19 rfl rfl rfl rfl (f_49 v603 H hI hJ y604 y605 y606 y607 y608 (by first | with_reducible assumption | omega) hp0 zp612 hp2) (fun v615 H613 r614 => ?_)
    obtain ⟨y616, y617, y618, y619, y620, rfl, bv615, by616, zp621, zp622⟩ := r614
    obtain ⟨razp621, rbzp621, rczp621, rdzp621, rezp621, rfzp621⟩ := id zp621
    have kzp621 := pP_ok (nm := b.nm) (P := b.P) (T := T) (but := v603.toInt) (g := (pRdR2 b T g))
    have al623 : pRdR3 b T g = (pPlc b.nm b.P T v603.toInt (pRdR2 b T g)) := by unfold pRdR3; rw [← zp610]
    have zp624 := zp621
    rw [← al623] at zp624
    rw [← al623] at kzp621
    obtain ⟨razp624, rbzp624, rczp624, rdzp624, rezp624, rfzp624⟩ := id zp624
    have rg2 := pl_rng (nm := b.nm) (P := b.P) (T := T) (g := pRdR2 b T g)
    refine g_istore_n (l' := [(0, .ref 19), (1, .int v603), (2, .int v615)]) rfl rfl ?_
    refine g_aload_n rfl ?_
    refine g_iconst (by decide) (fun v625 kv625 => ?_)
    refine g_bipush (by decide) (fun v626 kv626 => ?_)
    refine g_invvi (rS_I hI (by first | with_reducible assumption | omega)) sx_19 rfl rfl rfl rfl (f_48 v625 v626 H hI hJ y616 y617 y618 y619 y620 (by first | with_reducible assumption | omega) hp0 zp624) (fun v629 H627 r628 => ?_)
    obtain ⟨y630, y631, y632, y633, y634, rfl, by630, zp635, zp636⟩ := r628
    rw [kv625] at zp635
    rw [kv626] at zp635
    obtain ⟨razp635, rbzp635, rczp635, rdzp635, rezp635, rfzp635⟩ := id zp635
    have kzp635 := pN_ok (T := T) (lo := 1) (hi := 99) (g := (pRdR3 b T g))
    have al637 : pRdR b T g = (pNumb T 1 99 (pRdR3 b T g)) := by rfl
    have zp638 := zp635
    rw [← al637] at zp638
    rw [← al637] at kzp635
    obtain ⟨razp638, rbzp638, rczp638, rdzp638, rezp638, rfzp638⟩ := id zp638
    refine g_istore_n (l' := [(0, .ref 19), (1, .int v603), (2, .int v615), (3, .int v629)]) rfl rfl ?_
    refine g_aload_n rfl ?_
    refine g_gfk (rS_I hI (by first | with_reducible assumption | omega)) sx_19 rfl (rS_g5 hI) ?_
    refine g_if_ne (fun c639 => ?_) (fun c639 => ?_)
    · exact g_ret ⟨rfl, H, y630, y631, y632, y633, y634, rfl, hI, hJ, (by first | with_reducible assumption | omega), zp638, hp0, (by unfold bRdR; rw [if_neg (by first | with_reducible assumption | omega)]; exact hp2), (fun _ _ => rfl), (by rw [if_neg (by first | with_reducible assumption | omega)])⟩
    · refine g_aload_n rfl ?_
      refine g_gfr (rS_I hI (by first | with_reducible assumption | omega)) sx_19 rfl ?_
      refine g_iload_n rfl ?_
      refine g_iload_n rfl ?_
      refine g_iload_n rfl ?_
      refine g_invvv (rS_I hI (by first | with_reducible assumption | omega)) sx_11 rfl rfl rfl rfl (h_15 v603 v615 v629 H hI hJ y630 y631 y632 y633 y634 (by first | with_reducible assumption | omega) hp2 (by first | with_reducible assumption | omega) (by first | with_reducible assumption | omega)) (fun H640 r641 => ?_)
      obtain ⟨B645, rfl, hIB645, hJB645, zp642, zp643, zp644⟩ := r641
      refine g_nop ?_
      exact g_ret ⟨rfl, B645, y630, y631, y632, y633, y634, rfl, hIB645, hJB645, (by first | with_reducible assumption | omega), zp638, (tk_fr hp0 zp642), (by unfold bRdR; rw [if_pos (by first | with_reducible assumption | omega)]; exact zp643), zp642, (by rw [if_pos (by first | with_reducible assumption | omega), ← zp610, ← zp622, ← zp636]; exact zp644)⟩
set_option maxRecDepth 4000 in
set_option maxHeartbeats 4000000 in
/-- X4.readFits, exactly -/
theorem h_44 (H : mzH) (hI : gI SX H) (hJ : JX H) (x0 x1 x2 x3 x4 : Int32) (hx0 : 0 ≤ x0.toInt ∧ x0.toInt ≤ 900) {T : pT} {g : pG} {b : pB} (hp0 : tkH H T) (hp1 : rdX T g x0 x1 x2 x3 x4) (hp2 : bkX H 11 b) : gCall 44 [.ref 19] (rS H x0 x1 x2 x3 x4) (gRv (fun H' => ∃ B : mzH, ∃ y0 y1 y2 y3 y4 : Int32, H' = rS B y0 y1 y2 y3 y4 ∧ gI SX B ∧ JX B ∧ (0 ≤ y0.toInt ∧ y0.toInt ≤ 900) ∧ rdX T (pRdF b T g) y0 y1 y2 y3 y4 ∧ tkH B T ∧ bkX B 11 (bRdF b T g) ∧ frD H B ∧ wX B = wX H)) := by
  obtain ⟨r0, r1, r2, r3, r4, r5⟩ := id hp1
  have w0 := hp0.2
  have w1 := hp2.2.2.2.2.2.1
  refine gG_call [(0, .ref 19)] ⟨rfl, trivial⟩ ?_
  show gG 3 zB_44 (mzBlk zB_44 0) [(0, .ref 19)] [] (rS H x0 x1 x2 x3 x4) 0 0 _
  refine g_aload_n rfl ?_
  refine g_gfr (rS_I hI (by first | with_reducible assumption | omega)) sx_19 rfl ?_
  refine g_gfi (rS_I hI (by first | with_reducible assumption | omega)) sx_11 rfl (fun v433 ev433 lv433 uv433 => ?_)
  have iv433 : v433.toInt = (fZ H 11 12).toInt := by rw [ev433, ← rS_o (by decide)]
  refine g_if_eq (fun c434 => ?_) (fun c434 => ?_)
  · refine g_aload_n rfl ?_
    refine g_iconst (by decide) (fun v435 kv435 => ?_)
    refine g_iconst (by decide) (fun v436 kv436 => ?_)
    refine g_invvi (rS_I hI (by first | with_reducible assumption | omega)) sx_19 rfl rfl rfl rfl (f_50 v435 v436 H hI hJ x0 x1 x2 x3 x4 (by first | with_reducible assumption | omega) hp0 hp1) (fun v439 H437 r438 => ?_)
    obtain ⟨y440, y441, y442, y443, y444, rfl, by440, zp445, zp446⟩ := r438
    rw [kv435] at zp445
    rw [kv435] at zp446
    rw [kv436] at zp445
    rw [kv436] at zp446
    obtain ⟨razp445, rbzp445, rczp445, rdzp445, rezp445, rfzp445⟩ := id zp445
    have al447 : pRdF1 b T g = (pTake T 2 2 g) := by unfold pRdF1; first | rw [if_pos (by first | with_reducible assumption | omega)] | rw [if_neg (by first | with_reducible assumption | omega)]
    have zp448 := zp445
    rw [← al447] at zp448
    rw [← al447] at zp446
    obtain ⟨razp448, rbzp448, rczp448, rdzp448, rezp448, rfzp448⟩ := id zp448
    refine g_pop rfl ?_
    refine g_aload_n rfl ?_
    refine g_iconst (by decide) (fun v449 kv449 => ?_)
    refine g_bipush (by decide) (fun v450 kv450 => ?_)
    refine g_invvi (rS_I hI (by first | with_reducible assumption | omega)) sx_19 rfl rfl rfl rfl (f_48 v449 v450 H hI hJ y440 y441 y442 y443 y444 (by first | with_reducible assumption | omega) hp0 zp448) (fun v453 H451 r452 => ?_)
    obtain ⟨y454, y455, y456, y457, y458, rfl, by454, zp459, zp460⟩ := r452
    rw [kv449] at zp459
    rw [kv450] at zp459
    obtain ⟨razp459, rbzp459, rczp459, rdzp459, rezp459, rfzp459⟩ := id zp459
    have kzp459 := pN_ok (T := T) (lo := 1) (hi := 20) (g := (pRdF1 b T g))
    have al461 : pRdF2 b T g = (pNumb T 1 20 (pRdF1 b T g)) := by rfl
    have zp462 := zp459
    rw [← al461] at zp462
    rw [← al461] at kzp459
    obtain ⟨razp462, rbzp462, rczp462, rdzp462, rezp462, rfzp462⟩ := id zp462
    refine g_istore_n (l' := [(0, .ref 19), (1, .int v453)]) rfl rfl ?_
    refine g_aload_n rfl ?_
    refine g_iconst (by decide) (fun v463 kv463 => ?_)
    refine g_bipush (by decide) (fun v464 kv464 => ?_)
    refine g_invvi (rS_I hI (by first | with_reducible assumption | omega)) sx_19 rfl rfl rfl rfl (f_48 v463 v464 H hI hJ y454 y455 y456 y457 y458 (by first | with_reducible assumption | omega) hp0 zp462) (fun v467 H465 r466 => ?_)
    obtain ⟨y468, y469, y470, y471, y472, rfl, by468, zp473, zp474⟩ := r466
    rw [kv463] at zp473
    rw [kv464] at zp473
    obtain ⟨razp473, rbzp473, rczp473, rdzp473, rezp473, rfzp473⟩ := id zp473
    have kzp473 := pN_ok (T := T) (lo := 1) (hi := 20) (g := (pRdF2 b T g))
    have al475 : pRdF b T g = (pNumb T 1 20 (pRdF2 b T g)) := by rfl
    have zp476 := zp473
    rw [← al475] at zp476
    rw [← al475] at kzp473
    obtain ⟨razp476, rbzp476, rczp476, rdzp476, rezp476, rfzp476⟩ := id zp476
    refine g_istore_n (l' := [(0, .ref 19), (1, .int v453), (2, .int v467)]) rfl rfl ?_
    refine g_aload_n rfl ?_
    refine g_gfk (rS_I hI (by first | with_reducible assumption | omega)) sx_19 rfl (rS_g5 hI) ?_
    refine g_if_ne (fun c477 => ?_) (fun c477 => ?_)
    · exact g_ret ⟨rfl, H, y468, y469, y470, y471, y472, rfl, hI, hJ, (by first | with_reducible assumption | omega), zp476, hp0, (by unfold bRdF; rw [if_neg (by first | with_reducible assumption | omega)]; exact hp2), (fun _ _ => rfl), rfl⟩
    · refine g_aload_n rfl ?_
      refine g_gfr (rS_I hI (by first | with_reducible assumption | omega)) sx_19 rfl ?_
      refine g_iload_n rfl ?_
      refine g_pfi (rS_I hI (by first | with_reducible assumption | omega)) sx_11 rfl (gz_any _) (fun H478 eH478 hIH478 => ?_)
      obtain ⟨B479, eB479⟩ : ∃ z, z = sF H 11 10 v453 := ⟨_, rfl⟩
      obtain rfl : H478 = (rS B479 y468 y469 y470 y471 y472) := by rw [eH478, eB479]; exact rS_cF (by decide)
      have hIB479 : gI SX B479 := by rw [eB479]; exact gI_sF hI sx_11 rfl (gz_any _)
      have hJB479 : JX B479 := JX_sF eB479 hJ
      refine g_aload_n rfl ?_
      refine g_gfr (rS_I hIB479 (by first | with_reducible assumption | omega)) sx_19 rfl ?_
      refine g_iload_n rfl ?_
      refine g_pfi (rS_I hIB479 (by first | with_reducible assumption | omega)) sx_11 rfl (gz_any _) (fun H480 eH480 hIH480 => ?_)
      obtain ⟨B481, eB481⟩ : ∃ z, z = sF B479 11 11 v467 := ⟨_, rfl⟩
      obtain rfl : H480 = (rS B481 y468 y469 y470 y471 y472) := by rw [eH480, eB481]; exact rS_cF (by decide)
      have hIB481 : gI SX B481 := by rw [eB481]; exact gI_sF hIB479 sx_11 rfl (gz_any _)
      have hJB481 : JX B481 := JX_sF eB481 hJB479
      refine g_aload_n rfl ?_
      refine g_gfr (rS_I hIB481 (by first | with_reducible assumption | omega)) sx_19 rfl ?_
      refine g_iconst (by decide) (fun v482 kv482 => ?_)
      refine g_pfz (rS_I hIB481 (by first | with_reducible assumption | omega)) sx_11 rfl (by first | with_reducible assumption | omega) (fun H483 eH483 hIH483 => ?_)
      obtain ⟨B484, eB484⟩ : ∃ z, z = sF B481 11 12 v482 := ⟨_, rfl⟩
      obtain rfl : H483 = (rS B484 y468 y469 y470 y471 y472) := by rw [eH483, eB484]; exact rS_cF (by decide)
      have hIB484 : gI SX B484 := by rw [eB484]; exact gI_sF hIB481 sx_11 rfl (by first | with_reducible assumption | omega)
      have hJB484 : JX B484 := JX_sF eB484 hJB481
      refine g_nop ?_
      exact g_ret ⟨rfl, B484, y468, y469, y470, y471, y472, rfl, hIB484, hJB484, (by first | with_reducible assumption | omega), zp476, (tk_fr hp0 (frD_f eB479 eB481 eB484)), (by unfold bRdF; rw [if_pos (by first | with_reducible assumption | omega)]; rw [← zp460, ← zp474]; exact bft_mk hI hIB479 hIB481 hp2 eB479 eB481 eB484 (by first | with_reducible assumption | omega)), (frD_f eB479 eB481 eB484), (wX_3 eB479 eB481 eB484)⟩
  · refine g_aload_n rfl ?_
    refine g_iconst (by decide) (fun v485 kv485 => ?_)
    refine g_invvv (rS_I hI (by first | with_reducible assumption | omega)) sx_19 rfl rfl rfl rfl (f_40 v485 (by first | with_reducible assumption | omega) H hI hJ x0 x1 x2 x3 x4 (by first | with_reducible assumption | omega) hp0 hp1) (fun H486 r487 => ?_)
    obtain ⟨y488, y489, rfl, zp490⟩ := r487
    rw [kv485] at zp490
    obtain ⟨razp490, rbzp490, rczp490, rdzp490, rezp490, rfzp490⟩ := id zp490
    have nzp490 := pF_ne (T := T) (g := g) (n := 3) (by first | with_reducible assumption | omega)
    refine g_nop ?_
    refine g_aload_n rfl ?_
    refine g_iconst (by decide) (fun v491 kv491 => ?_)
    refine g_iconst (by decide) (fun v492 kv492 => ?_)
    refine g_invvi (rS_I hI (by first | with_reducible assumption | omega)) sx_19 rfl rfl rfl rfl (f_50 v491 v492 H hI hJ x0 x1 x2 y488 y489 (by first | with_reducible assumption | omega) hp0 zp490) (fun v495 H493 r494 => ?_)
    obtain ⟨y496, y497, y498, y499, y500, rfl, by496, zp501, zp502⟩ := r494
    rw [kv491] at zp501
    rw [kv491] at zp502
    rw [kv492] at zp501
    rw [kv492] at zp502
    obtain ⟨razp501, rbzp501, rczp501, rdzp501, rezp501, rfzp501⟩ := id zp501
    have al503 : pRdF1 b T g = (pTake T 2 2 (pFail T 3 g)) := by unfold pRdF1; first | rw [if_pos (by first | with_reducible assumption | omega)] | rw [if_neg (by first | with_reducible assumption | omega)]
    have zp504 := zp501
    rw [← al503] at zp504
    rw [← al503] at zp502
    obtain ⟨razp504, rbzp504, rczp504, rdzp504, rezp504, rfzp504⟩ := id zp504
    refine g_pop rfl ?_
    refine g_aload_n rfl ?_
    refine g_iconst (by decide) (fun v505 kv505 => ?_)
    refine g_bipush (by decide) (fun v506 kv506 => ?_)
    refine g_invvi (rS_I hI (by first | with_reducible assumption | omega)) sx_19 rfl rfl rfl rfl (f_48 v505 v506 H hI hJ y496 y497 y498 y499 y500 (by first | with_reducible assumption | omega) hp0 zp504) (fun v509 H507 r508 => ?_)
    obtain ⟨y510, y511, y512, y513, y514, rfl, by510, zp515, zp516⟩ := r508
    rw [kv505] at zp515
    rw [kv506] at zp515
    obtain ⟨razp515, rbzp515, rczp515, rdzp515, rezp515, rfzp515⟩ := id zp515
    have kzp515 := pN_ok (T := T) (lo := 1) (hi := 20) (g := (pRdF1 b T g))
    have al517 : pRdF2 b T g = (pNumb T 1 20 (pRdF1 b T g)) := by rfl
    have zp518 := zp515
    rw [← al517] at zp518
    rw [← al517] at kzp515
    obtain ⟨razp518, rbzp518, rczp518, rdzp518, rezp518, rfzp518⟩ := id zp518
    refine g_istore_n (l' := [(0, .ref 19), (1, .int v509)]) rfl rfl ?_
    refine g_aload_n rfl ?_
    refine g_iconst (by decide) (fun v519 kv519 => ?_)
    refine g_bipush (by decide) (fun v520 kv520 => ?_)
    refine g_invvi (rS_I hI (by first | with_reducible assumption | omega)) sx_19 rfl rfl rfl rfl (f_48 v519 v520 H hI hJ y510 y511 y512 y513 y514 (by first | with_reducible assumption | omega) hp0 zp518) (fun v523 H521 r522 => ?_)
    obtain ⟨y524, y525, y526, y527, y528, rfl, by524, zp529, zp530⟩ := r522
    rw [kv519] at zp529
    rw [kv520] at zp529
    obtain ⟨razp529, rbzp529, rczp529, rdzp529, rezp529, rfzp529⟩ := id zp529
    have kzp529 := pN_ok (T := T) (lo := 1) (hi := 20) (g := (pRdF2 b T g))
    have al531 : pRdF b T g = (pNumb T 1 20 (pRdF2 b T g)) := by rfl
    have zp532 := zp529
    rw [← al531] at zp532
    rw [← al531] at kzp529
    obtain ⟨razp532, rbzp532, rczp532, rdzp532, rezp532, rfzp532⟩ := id zp532
    refine g_istore_n (l' := [(0, .ref 19), (1, .int v509), (2, .int v523)]) rfl rfl ?_
    refine g_aload_n rfl ?_
    refine g_gfk (rS_I hI (by first | with_reducible assumption | omega)) sx_19 rfl (rS_g5 hI) ?_
    refine g_if_ne (fun c533 => ?_) (fun c533 => ?_)
    · exact g_ret ⟨rfl, H, y524, y525, y526, y527, y528, rfl, hI, hJ, (by first | with_reducible assumption | omega), zp532, hp0, (by unfold bRdF; rw [if_neg (by first | with_reducible assumption | omega)]; exact hp2), (fun _ _ => rfl), rfl⟩
    · refine g_aload_n rfl ?_
      refine g_gfr (rS_I hI (by first | with_reducible assumption | omega)) sx_19 rfl ?_
      refine g_iload_n rfl ?_
      refine g_pfi (rS_I hI (by first | with_reducible assumption | omega)) sx_11 rfl (gz_any _) (fun H534 eH534 hIH534 => ?_)
      obtain ⟨B535, eB535⟩ : ∃ z, z = sF H 11 10 v509 := ⟨_, rfl⟩
      obtain rfl : H534 = (rS B535 y524 y525 y526 y527 y528) := by rw [eH534, eB535]; exact rS_cF (by decide)
      have hIB535 : gI SX B535 := by rw [eB535]; exact gI_sF hI sx_11 rfl (gz_any _)
      have hJB535 : JX B535 := JX_sF eB535 hJ
      refine g_aload_n rfl ?_
      refine g_gfr (rS_I hIB535 (by first | with_reducible assumption | omega)) sx_19 rfl ?_
      refine g_iload_n rfl ?_
      refine g_pfi (rS_I hIB535 (by first | with_reducible assumption | omega)) sx_11 rfl (gz_any _) (fun H536 eH536 hIH536 => ?_)
      obtain ⟨B537, eB537⟩ : ∃ z, z = sF B535 11 11 v523 := ⟨_, rfl⟩
      obtain rfl : H536 = (rS B537 y524 y525 y526 y527 y528) := by rw [eH536, eB537]; exact rS_cF (by decide)
      have hIB537 : gI SX B537 := by rw [eB537]; exact gI_sF hIB535 sx_11 rfl (gz_any _)
      have hJB537 : JX B537 := JX_sF eB537 hJB535
      refine g_aload_n rfl ?_
      refine g_gfr (rS_I hIB537 (by first | with_reducible assumption | omega)) sx_19 rfl ?_
      refine g_iconst (by decide) (fun v538 kv538 => ?_)
      refine g_pfz (rS_I hIB537 (by first | with_reducible assumption | omega)) sx_11 rfl (by first | with_reducible assumption | omega) (fun H539 eH539 hIH539 => ?_)
      obtain ⟨B540, eB540⟩ : ∃ z, z = sF B537 11 12 v538 := ⟨_, rfl⟩
      obtain rfl : H539 = (rS B540 y524 y525 y526 y527 y528) := by rw [eH539, eB540]; exact rS_cF (by decide)
      have hIB540 : gI SX B540 := by rw [eB540]; exact gI_sF hIB537 sx_11 rfl (by first | with_reducible assumption | omega)
      have hJB540 : JX B540 := JX_sF eB540 hJB537
      refine g_nop ?_
      exact g_ret ⟨rfl, B540, y524, y525, y526, y527, y528, rfl, hIB540, hJB540, (by first | with_reducible assumption | omega), zp532, (tk_fr hp0 (frD_f eB535 eB537 eB540)), (by unfold bRdF; rw [if_pos (by first | with_reducible assumption | omega)]; rw [← zp516, ← zp530]; exact bft_mk hI hIB535 hIB537 hp2 eB535 eB537 eB540 (by first | with_reducible assumption | omega)), (frD_f eB535 eB537 eB540), (wX_3 eB535 eB537 eB540)⟩
set_option maxRecDepth 4000 in
set_option maxHeartbeats 4000000 in
/-- X4.readMessage, exactly -/
theorem h_45 (H : mzH) (hI : gI SX H) (hJ : JX H) (x0 x1 x2 x3 x4 : Int32) (hx0 : 0 ≤ x0.toInt ∧ x0.toInt ≤ 900) {T : pT} {g : pG} {b : pB} (hp0 : tkH H T) (hp1 : rdX T g x0 x1 x2 x3 x4) (hp2 : bkX H 11 b) : gCall 45 [.ref 19] (rS H x0 x1 x2 x3 x4) (gRv (fun H' => ∃ B : mzH, ∃ y0 y1 y2 y3 y4 : Int32, H' = rS B y0 y1 y2 y3 y4 ∧ gI SX B ∧ JX B ∧ (0 ≤ y0.toInt ∧ y0.toInt ≤ 900) ∧ rdX T (pM6 b T g) y0 y1 y2 y3 y4 ∧ tkH B T ∧ bkX B 11 (bMg b T g) ∧ frD H B ∧ wX B = wX H)) := by
  obtain ⟨r0, r1, r2, r3, r4, r5⟩ := id hp1
  have w0 := hp0.2
  have w1 := hp2.2.2.1
  have w2 := fZ_of hI sx_11 (f := 9) rfl
  refine gG_call [(0, .ref 19)] ⟨rfl, trivial⟩ ?_
  show gG 6 zB_45 (mzBlk zB_45 0) [(0, .ref 19)] [] (rS H x0 x1 x2 x3 x4) 0 0 _
  refine g_aload_n rfl ?_
  refine g_gfr (rS_I hI (by first | with_reducible assumption | omega)) sx_19 rfl ?_
  refine g_gfi (rS_I hI (by first | with_reducible assumption | omega)) sx_11 rfl (fun v965 ev965 lv965 uv965 => ?_)
  have iv965 : v965.toInt = (fZ H 11 9).toInt := by rw [ev965, ← rS_o (by decide)]
  refine g_bipush (by decide) (fun v966 kv966 => ?_)
  refine g_if2_ne (fun c967 => ?_) (fun c967 => ?_)
  · refine g_aload_n rfl ?_
    refine g_iconst (by decide) (fun v968 kv968 => ?_)
    refine g_iconst (by decide) (fun v969 kv969 => ?_)
    refine g_invvi (rS_I hI (by first | with_reducible assumption | omega)) sx_19 rfl rfl rfl rfl (f_50 v968 v969 H hI hJ x0 x1 x2 x3 x4 (by first | with_reducible assumption | omega) hp0 hp1) (fun v972 H970 r971 => ?_)
    obtain ⟨y973, y974, y975, y976, y977, rfl, by973, zp978, zp979⟩ := r971
    rw [kv968] at zp978
    rw [kv968] at zp979
    rw [kv969] at zp978
    rw [kv969] at zp979
    obtain ⟨razp978, rbzp978, rczp978, rdzp978, rezp978, rfzp978⟩ := id zp978
    have al980 : pM1 b T g = (pTake T 3 3 g) := by unfold pM1; first | rw [if_pos (by first | with_reducible assumption | omega)] | rw [if_neg (by first | with_reducible assumption | omega)]
    have zp981 := zp978
    rw [← al980] at zp981
    rw [← al980] at zp979
    obtain ⟨razp981, rbzp981, rczp981, rdzp981, rezp981, rfzp981⟩ := id zp981
    refine g_pop rfl ?_
    refine g_aload_n rfl ?_
    refine g_iconst (by decide) (fun v982 kv982 => ?_)
    refine g_sipush (by decide) (fun v983 kv983 => ?_)
    refine g_invvi (rS_I hI (by first | with_reducible assumption | omega)) sx_19 rfl rfl rfl rfl (f_48 v982 v983 H hI hJ y973 y974 y975 y976 y977 (by first | with_reducible assumption | omega) hp0 zp981) (fun v986 H984 r985 => ?_)
    obtain ⟨y987, y988, y989, y990, y991, rfl, by987, zp992, zp993⟩ := r985
    rw [kv982] at zp992
    rw [kv983] at zp992
    obtain ⟨razp992, rbzp992, rczp992, rdzp992, rezp992, rfzp992⟩ := id zp992
    have kzp992 := pN_ok (T := T) (lo := 0) (hi := 999) (g := (pM1 b T g))
    have al994 : pM2 b T g = (pNumb T 0 999 (pM1 b T g)) := by rfl
    have zp995 := zp992
    rw [← al994] at zp995
    rw [← al994] at kzp992
    obtain ⟨razp995, rbzp995, rczp995, rdzp995, rezp995, rfzp995⟩ := id zp995
    refine g_istore_n (l' := [(0, .ref 19), (1, .int v986)]) rfl rfl ?_
    refine g_aload_n rfl ?_
    refine g_invvi (rS_I hI (by first | with_reducible assumption | omega)) sx_19 rfl rfl rfl rfl (f_46 H hI hJ y987 y988 y989 y990 y991 (by first | with_reducible assumption | omega) hp0 zp995) (fun v998 H996 r997 => ?_)
    obtain ⟨y999, y1000, y1001, y1002, y1003, rfl, bv998, by999, zp1004, zp1005⟩ := r997
    obtain ⟨razp1004, rbzp1004, rczp1004, rdzp1004, rezp1004, rfzp1004⟩ := id zp1004
    have kzp1004 := pA_ok (T := T) (g := (pM2 b T g))
    have al1006 : pM3 b T g = (pAct T (pM2 b T g)) := by rfl
    have zp1007 := zp1004
    rw [← al1006] at zp1007
    rw [← al1006] at kzp1004
    obtain ⟨razp1007, rbzp1007, rczp1007, rdzp1007, rezp1007, rfzp1007⟩ := id zp1007
    refine g_istore_n (l' := [(0, .ref 19), (1, .int v986), (2, .int v998)]) rfl rfl ?_
    refine g_aload_n rfl ?_
    refine g_iconst (by decide) (fun v1008 kv1008 => ?_)
    refine g_bipush (by decide) (fun v1009 kv1009 => ?_)
    refine g_invvi (rS_I hI (by first | with_reducible assumption | omega)) sx_19 rfl rfl rfl rfl (f_48 v1008 v1009 H hI hJ y999 y1000 y1001 y1002 y1003 (by first | with_reducible assumption | omega) hp0 zp1007) (fun v1012 H1010 r1011 => ?_)
    obtain ⟨y1013, y1014, y1015, y1016, y1017, rfl, by1013, zp1018, zp1019⟩ := r1011
    rw [kv1008] at zp1018
    rw [kv1009] at zp1018
    obtain ⟨razp1018, rbzp1018, rczp1018, rdzp1018, rezp1018, rfzp1018⟩ := id zp1018
    have kzp1018 := pN_ok (T := T) (lo := 0) (hi := 39) (g := (pM3 b T g))
    have al1020 : pM4 b T g = (pNumb T 0 39 (pM3 b T g)) := by rfl
    have zp1021 := zp1018
    rw [← al1020] at zp1021
    rw [← al1020] at kzp1018
    obtain ⟨razp1021, rbzp1021, rczp1021, rdzp1021, rezp1021, rfzp1021⟩ := id zp1021
    refine g_istore_n (l' := [(0, .ref 19), (1, .int v986), (2, .int v998), (3, .int v1012)]) rfl rfl ?_
    refine g_iconst (by decide) (fun v1022 kv1022 => ?_)
    refine g_istore (l' := [(0, .ref 19), (1, .int v986), (2, .int v998), (3, .int v1012), (4, .int v1022)]) rfl rfl ?_
    refine g_iload_n rfl ?_
    refine g_if_ne (fun c1023 => ?_) (fun c1023 => ?_)
    · have al1024 : pM5 b T g = (pM4 b T g) := by unfold pM5; first | rw [if_pos (by first | with_reducible assumption | omega)] | rw [if_neg (by first | with_reducible assumption | omega)]
      have zp1025 := zp1021
      rw [← al1024] at zp1025
      obtain ⟨razp1025, rbzp1025, rczp1025, rdzp1025, rezp1025, rfzp1025⟩ := id zp1025
      refine g_aload_n rfl ?_
      refine g_iload_n rfl ?_
      refine g_invvi (rS_I hI (by first | with_reducible assumption | omega)) sx_19 rfl rfl rfl rfl (f_47 v998 (by first | with_reducible assumption | omega) H hI hJ y1013 y1014 y1015 y1016 y1017 (by first | with_reducible assumption | omega) hp0 zp1025 hp2) (fun v1028 H1026 r1027 => ?_)
      obtain ⟨y1029, y1030, y1031, y1032, y1033, rfl, by1029, zp1034, zp1035, zp1036⟩ := r1027
      obtain ⟨razp1034, rbzp1034, rczp1034, rdzp1034, rezp1034, rfzp1034⟩ := id zp1034
      have al1037 : pM6 b T g = (pSec b T v998.toInt (pM5 b T g)) := by unfold pM6; rw [← zp1005]
      have zp1038 := zp1034
      rw [← al1037] at zp1038
      rw [← al1037] at zp1036
      obtain ⟨razp1038, rbzp1038, rczp1038, rdzp1038, rezp1038, rfzp1038⟩ := id zp1038
      refine g_istore (l' := [(0, .ref 19), (1, .int v986), (2, .int v998), (3, .int v1012), (4, .int v1022), (5, .int v1028)]) rfl rfl ?_
      refine g_aload_n rfl ?_
      refine g_gfk (rS_I hI (by first | with_reducible assumption | omega)) sx_19 rfl (rS_g5 hI) ?_
      refine g_if_ne (fun c1039 => ?_) (fun c1039 => ?_)
      · exact g_ret ⟨rfl, H, y1029, y1030, y1031, y1032, y1033, rfl, hI, hJ, (by first | with_reducible assumption | omega), zp1038, hp0, (by unfold bMg; rw [if_neg (by first | with_reducible assumption | omega)]; exact hp2), (fun _ _ => rfl), rfl⟩
      · refine g_aload_n rfl ?_
        refine g_gfr (rS_I hI (by first | with_reducible assumption | omega)) sx_19 rfl ?_
        refine g_iload_n rfl ?_
        refine g_iload_n rfl ?_
        refine g_iload_n rfl ?_
        refine g_iload rfl ?_
        refine g_iload rfl ?_
        refine g_invvv (rS_I hI (by first | with_reducible assumption | omega)) sx_11 rfl rfl rfl rfl (h_16 v986 v998 v1012 (by first | with_reducible assumption | omega) v1028 (by first | with_reducible assumption | omega) v1022 H hI hJ y1029 y1030 y1031 y1032 y1033 (by first | with_reducible assumption | omega) hp2 (by first | with_reducible assumption | omega) (by first | with_reducible assumption | omega)) (fun H1040 r1041 => ?_)
        obtain ⟨B1045, rfl, hIB1045, hJB1045, zp1042, zp1043, zp1044⟩ := r1041
        have knzp1043 : v1022.toInt = pKn b T g := by unfold pKn; first | (rw [if_pos (by first | with_reducible assumption | omega)]; omega) | (rw [if_neg (by first | with_reducible assumption | omega)]; omega)
        refine g_nop ?_
        exact g_ret ⟨rfl, B1045, y1029, y1030, y1031, y1032, y1033, rfl, hIB1045, hJB1045, (by first | with_reducible assumption | omega), zp1038, (tk_fr hp0 zp1042), (by unfold bMg; rw [if_pos (by first | with_reducible assumption | omega)]; rw [zp1035, zp993, zp1005, zp1019, knzp1043] at zp1043; exact zp1043), zp1042, zp1044⟩
    · refine g_iconst (by decide) (fun v1046 kv1046 => ?_)
      refine g_aload_n rfl ?_
      refine g_iconst (by decide) (fun v1047 kv1047 => ?_)
      refine g_bipush (by decide) (fun v1048 kv1048 => ?_)
      refine g_invvi (rS_I hI (by first | with_reducible assumption | omega)) sx_19 rfl rfl rfl rfl (f_50 v1047 v1048 H hI hJ y1013 y1014 y1015 y1016 y1017 (by first | with_reducible assumption | omega) hp0 zp1021) (fun v1051 H1049 r1050 => ?_)
      obtain ⟨y1052, y1053, y1054, y1055, y1056, rfl, by1052, zp1057, zp1058⟩ := r1050
      rw [kv1047] at zp1057
      rw [kv1047] at zp1058
      rw [kv1048] at zp1057
      rw [kv1048] at zp1058
      obtain ⟨razp1057, rbzp1057, rczp1057, rdzp1057, rezp1057, rfzp1057⟩ := id zp1057
      refine g_iadd (by first | with_reducible assumption | omega) (fun v1059 ev1059 => ?_)
      refine g_iconst (by decide) (fun v1060 kv1060 => ?_)
      refine g_isub (by first | with_reducible assumption | omega) (fun v1061 ev1061 => ?_)
      refine g_istore (l' := [(0, .ref 19), (1, .int v986), (2, .int v998), (3, .int v1012), (4, .int v1061)]) rfl rfl ?_
      refine g_nop ?_
      have al1062 : pM5 b T g = (pTake T 5 7 (pM4 b T g)) := by unfold pM5; first | rw [if_pos (by first | with_reducible assumption | omega)] | rw [if_neg (by first | with_reducible assumption | omega)]
      have zp1063 := zp1057
      rw [← al1062] at zp1063
      rw [← al1062] at zp1058
      obtain ⟨razp1063, rbzp1063, rczp1063, rdzp1063, rezp1063, rfzp1063⟩ := id zp1063
      refine g_aload_n rfl ?_
      refine g_iload_n rfl ?_
      refine g_invvi (rS_I hI (by first | with_reducible assumption | omega)) sx_19 rfl rfl rfl rfl (f_47 v998 (by first | with_reducible assumption | omega) H hI hJ y1052 y1053 y1054 y1055 y1056 (by first | with_reducible assumption | omega) hp0 zp1063 hp2) (fun v1066 H1064 r1065 => ?_)
      obtain ⟨y1067, y1068, y1069, y1070, y1071, rfl, by1067, zp1072, zp1073, zp1074⟩ := r1065
      obtain ⟨razp1072, rbzp1072, rczp1072, rdzp1072, rezp1072, rfzp1072⟩ := id zp1072
      have al1075 : pM6 b T g = (pSec b T v998.toInt (pM5 b T g)) := by unfold pM6; rw [← zp1005]
      have zp1076 := zp1072
      rw [← al1075] at zp1076
      rw [← al1075] at zp1074
      obtain ⟨razp1076, rbzp1076, rczp1076, rdzp1076, rezp1076, rfzp1076⟩ := id zp1076
      refine g_istore (l' := [(0, .ref 19), (1, .int v986), (2, .int v998), (3, .int v1012), (4, .int v1061), (5, .int v1066)]) rfl rfl ?_
      refine g_aload_n rfl ?_
      refine g_gfk (rS_I hI (by first | with_reducible assumption | omega)) sx_19 rfl (rS_g5 hI) ?_
      refine g_if_ne (fun c1077 => ?_) (fun c1077 => ?_)
      · exact g_ret ⟨rfl, H, y1067, y1068, y1069, y1070, y1071, rfl, hI, hJ, (by first | with_reducible assumption | omega), zp1076, hp0, (by unfold bMg; rw [if_neg (by first | with_reducible assumption | omega)]; exact hp2), (fun _ _ => rfl), rfl⟩
      · refine g_aload_n rfl ?_
        refine g_gfr (rS_I hI (by first | with_reducible assumption | omega)) sx_19 rfl ?_
        refine g_iload_n rfl ?_
        refine g_iload_n rfl ?_
        refine g_iload_n rfl ?_
        refine g_iload rfl ?_
        refine g_iload rfl ?_
        refine g_invvv (rS_I hI (by first | with_reducible assumption | omega)) sx_11 rfl rfl rfl rfl (h_16 v986 v998 v1012 (by first | with_reducible assumption | omega) v1066 (by first | with_reducible assumption | omega) v1061 H hI hJ y1067 y1068 y1069 y1070 y1071 (by first | with_reducible assumption | omega) hp2 (by first | with_reducible assumption | omega) (by first | with_reducible assumption | omega)) (fun H1078 r1079 => ?_)
        obtain ⟨B1083, rfl, hIB1083, hJB1083, zp1080, zp1081, zp1082⟩ := r1079
        have knzp1081 : v1061.toInt = pKn b T g := by unfold pKn; first | (rw [if_pos (by first | with_reducible assumption | omega)]; omega) | (rw [if_neg (by first | with_reducible assumption | omega)]; omega)
        refine g_nop ?_
        exact g_ret ⟨rfl, B1083, y1067, y1068, y1069, y1070, y1071, rfl, hIB1083, hJB1083, (by first | with_reducible assumption | omega), zp1076, (tk_fr hp0 zp1080), (by unfold bMg; rw [if_pos (by first | with_reducible assumption | omega)]; rw [zp1073, zp993, zp1005, zp1019, knzp1081] at zp1081; exact zp1081), zp1080, zp1082⟩
  · refine g_aload_n rfl ?_
    refine g_iconst (by decide) (fun v1084 kv1084 => ?_)
    refine g_invvv (rS_I hI (by first | with_reducible assumption | omega)) sx_19 rfl rfl rfl rfl (f_40 v1084 (by first | with_reducible assumption | omega) H hI hJ x0 x1 x2 x3 x4 (by first | with_reducible assumption | omega) hp0 hp1) (fun H1085 r1086 => ?_)
    obtain ⟨y1087, y1088, rfl, zp1089⟩ := r1086
    rw [kv1084] at zp1089
    obtain ⟨razp1089, rbzp1089, rczp1089, rdzp1089, rezp1089, rfzp1089⟩ := id zp1089
    have nzp1089 := pF_ne (T := T) (g := g) (n := 2) (by first | with_reducible assumption | omega)
    refine g_nop ?_
    refine g_aload_n rfl ?_
    refine g_iconst (by decide) (fun v1090 kv1090 => ?_)
    refine g_iconst (by decide) (fun v1091 kv1091 => ?_)
    refine g_invvi (rS_I hI (by first | with_reducible assumption | omega)) sx_19 rfl rfl rfl rfl (f_50 v1090 v1091 H hI hJ x0 x1 x2 y1087 y1088 (by first | with_reducible assumption | omega) hp0 zp1089) (fun v1094 H1092 r1093 => ?_)
    obtain ⟨y1095, y1096, y1097, y1098, y1099, rfl, by1095, zp1100, zp1101⟩ := r1093
    rw [kv1090] at zp1100
    rw [kv1090] at zp1101
    rw [kv1091] at zp1100
    rw [kv1091] at zp1101
    obtain ⟨razp1100, rbzp1100, rczp1100, rdzp1100, rezp1100, rfzp1100⟩ := id zp1100
    have al1102 : pM1 b T g = (pTake T 3 3 (pFail T 2 g)) := by unfold pM1; first | rw [if_pos (by first | with_reducible assumption | omega)] | rw [if_neg (by first | with_reducible assumption | omega)]
    have zp1103 := zp1100
    rw [← al1102] at zp1103
    rw [← al1102] at zp1101
    obtain ⟨razp1103, rbzp1103, rczp1103, rdzp1103, rezp1103, rfzp1103⟩ := id zp1103
    refine g_pop rfl ?_
    refine g_aload_n rfl ?_
    refine g_iconst (by decide) (fun v1104 kv1104 => ?_)
    refine g_sipush (by decide) (fun v1105 kv1105 => ?_)
    refine g_invvi (rS_I hI (by first | with_reducible assumption | omega)) sx_19 rfl rfl rfl rfl (f_48 v1104 v1105 H hI hJ y1095 y1096 y1097 y1098 y1099 (by first | with_reducible assumption | omega) hp0 zp1103) (fun v1108 H1106 r1107 => ?_)
    obtain ⟨y1109, y1110, y1111, y1112, y1113, rfl, by1109, zp1114, zp1115⟩ := r1107
    rw [kv1104] at zp1114
    rw [kv1105] at zp1114
    obtain ⟨razp1114, rbzp1114, rczp1114, rdzp1114, rezp1114, rfzp1114⟩ := id zp1114
    have kzp1114 := pN_ok (T := T) (lo := 0) (hi := 999) (g := (pM1 b T g))
    have al1116 : pM2 b T g = (pNumb T 0 999 (pM1 b T g)) := by rfl
    have zp1117 := zp1114
    rw [← al1116] at zp1117
    rw [← al1116] at kzp1114
    obtain ⟨razp1117, rbzp1117, rczp1117, rdzp1117, rezp1117, rfzp1117⟩ := id zp1117
    refine g_istore_n (l' := [(0, .ref 19), (1, .int v1108)]) rfl rfl ?_
    refine g_aload_n rfl ?_
    refine g_invvi (rS_I hI (by first | with_reducible assumption | omega)) sx_19 rfl rfl rfl rfl (f_46 H hI hJ y1109 y1110 y1111 y1112 y1113 (by first | with_reducible assumption | omega) hp0 zp1117) (fun v1120 H1118 r1119 => ?_)
    obtain ⟨y1121, y1122, y1123, y1124, y1125, rfl, bv1120, by1121, zp1126, zp1127⟩ := r1119
    obtain ⟨razp1126, rbzp1126, rczp1126, rdzp1126, rezp1126, rfzp1126⟩ := id zp1126
    have kzp1126 := pA_ok (T := T) (g := (pM2 b T g))
    have al1128 : pM3 b T g = (pAct T (pM2 b T g)) := by rfl
    have zp1129 := zp1126
    rw [← al1128] at zp1129
    rw [← al1128] at kzp1126
    obtain ⟨razp1129, rbzp1129, rczp1129, rdzp1129, rezp1129, rfzp1129⟩ := id zp1129
    refine g_istore_n (l' := [(0, .ref 19), (1, .int v1108), (2, .int v1120)]) rfl rfl ?_
    refine g_aload_n rfl ?_
    refine g_iconst (by decide) (fun v1130 kv1130 => ?_)
    refine g_bipush (by decide) (fun v1131 kv1131 => ?_)
    refine g_invvi (rS_I hI (by first | with_reducible assumption | omega)) sx_19 rfl rfl rfl rfl (f_48 v1130 v1131 H hI hJ y1121 y1122 y1123 y1124 y1125 (by first | with_reducible assumption | omega) hp0 zp1129) (fun v1134 H1132 r1133 => ?_)
    obtain ⟨y1135, y1136, y1137, y1138, y1139, rfl, by1135, zp1140, zp1141⟩ := r1133
    rw [kv1130] at zp1140
    rw [kv1131] at zp1140
    obtain ⟨razp1140, rbzp1140, rczp1140, rdzp1140, rezp1140, rfzp1140⟩ := id zp1140
    have kzp1140 := pN_ok (T := T) (lo := 0) (hi := 39) (g := (pM3 b T g))
    have al1142 : pM4 b T g = (pNumb T 0 39 (pM3 b T g)) := by rfl
    have zp1143 := zp1140
    rw [← al1142] at zp1143
    rw [← al1142] at kzp1140
    obtain ⟨razp1143, rbzp1143, rczp1143, rdzp1143, rezp1143, rfzp1143⟩ := id zp1143
    refine g_istore_n (l' := [(0, .ref 19), (1, .int v1108), (2, .int v1120), (3, .int v1134)]) rfl rfl ?_
    refine g_iconst (by decide) (fun v1144 kv1144 => ?_)
    refine g_istore (l' := [(0, .ref 19), (1, .int v1108), (2, .int v1120), (3, .int v1134), (4, .int v1144)]) rfl rfl ?_
    refine g_iload_n rfl ?_
    refine g_if_ne (fun c1145 => ?_) (fun c1145 => ?_)
    · have al1146 : pM5 b T g = (pM4 b T g) := by unfold pM5; first | rw [if_pos (by first | with_reducible assumption | omega)] | rw [if_neg (by first | with_reducible assumption | omega)]
      have zp1147 := zp1143
      rw [← al1146] at zp1147
      obtain ⟨razp1147, rbzp1147, rczp1147, rdzp1147, rezp1147, rfzp1147⟩ := id zp1147
      refine g_aload_n rfl ?_
      refine g_iload_n rfl ?_
      refine g_invvi (rS_I hI (by first | with_reducible assumption | omega)) sx_19 rfl rfl rfl rfl (f_47 v1120 (by first | with_reducible assumption | omega) H hI hJ y1135 y1136 y1137 y1138 y1139 (by first | with_reducible assumption | omega) hp0 zp1147 hp2) (fun v1150 H1148 r1149 => ?_)
      obtain ⟨y1151, y1152, y1153, y1154, y1155, rfl, by1151, zp1156, zp1157, zp1158⟩ := r1149
      obtain ⟨razp1156, rbzp1156, rczp1156, rdzp1156, rezp1156, rfzp1156⟩ := id zp1156
      have al1159 : pM6 b T g = (pSec b T v1120.toInt (pM5 b T g)) := by unfold pM6; rw [← zp1127]
      have zp1160 := zp1156
      rw [← al1159] at zp1160
      rw [← al1159] at zp1158
      obtain ⟨razp1160, rbzp1160, rczp1160, rdzp1160, rezp1160, rfzp1160⟩ := id zp1160
      refine g_istore (l' := [(0, .ref 19), (1, .int v1108), (2, .int v1120), (3, .int v1134), (4, .int v1144), (5, .int v1150)]) rfl rfl ?_
      refine g_aload_n rfl ?_
      refine g_gfk (rS_I hI (by first | with_reducible assumption | omega)) sx_19 rfl (rS_g5 hI) ?_
      refine g_if_ne (fun c1161 => ?_) (fun c1161 => ?_)
      · exact g_ret ⟨rfl, H, y1151, y1152, y1153, y1154, y1155, rfl, hI, hJ, (by first | with_reducible assumption | omega), zp1160, hp0, (by unfold bMg; rw [if_neg (by first | with_reducible assumption | omega)]; exact hp2), (fun _ _ => rfl), rfl⟩
      · refine g_aload_n rfl ?_
        refine g_gfr (rS_I hI (by first | with_reducible assumption | omega)) sx_19 rfl ?_
        refine g_iload_n rfl ?_
        refine g_iload_n rfl ?_
        refine g_iload_n rfl ?_
        refine g_iload rfl ?_
        refine g_iload rfl ?_
        refine g_invvv (rS_I hI (by first | with_reducible assumption | omega)) sx_11 rfl rfl rfl rfl (h_16 v1108 v1120 v1134 (by first | with_reducible assumption | omega) v1150 (by first | with_reducible assumption | omega) v1144 H hI hJ y1151 y1152 y1153 y1154 y1155 (by first | with_reducible assumption | omega) hp2 (by first | with_reducible assumption | omega) (by first | with_reducible assumption | omega)) (fun H1162 r1163 => ?_)
        obtain ⟨B1167, rfl, hIB1167, hJB1167, zp1164, zp1165, zp1166⟩ := r1163
        have knzp1165 : v1144.toInt = pKn b T g := by unfold pKn; first | (rw [if_pos (by first | with_reducible assumption | omega)]; omega) | (rw [if_neg (by first | with_reducible assumption | omega)]; omega)
        refine g_nop ?_
        exact g_ret ⟨rfl, B1167, y1151, y1152, y1153, y1154, y1155, rfl, hIB1167, hJB1167, (by first | with_reducible assumption | omega), zp1160, (tk_fr hp0 zp1164), (by unfold bMg; rw [if_pos (by first | with_reducible assumption | omega)]; rw [zp1157, zp1115, zp1127, zp1141, knzp1165] at zp1165; exact zp1165), zp1164, zp1166⟩
    · refine g_iconst (by decide) (fun v1168 kv1168 => ?_)
      refine g_aload_n rfl ?_
      refine g_iconst (by decide) (fun v1169 kv1169 => ?_)
      refine g_bipush (by decide) (fun v1170 kv1170 => ?_)
      refine g_invvi (rS_I hI (by first | with_reducible assumption | omega)) sx_19 rfl rfl rfl rfl (f_50 v1169 v1170 H hI hJ y1135 y1136 y1137 y1138 y1139 (by first | with_reducible assumption | omega) hp0 zp1143) (fun v1173 H1171 r1172 => ?_)
      obtain ⟨y1174, y1175, y1176, y1177, y1178, rfl, by1174, zp1179, zp1180⟩ := r1172
      rw [kv1169] at zp1179
      rw [kv1169] at zp1180
      rw [kv1170] at zp1179
      rw [kv1170] at zp1180
      obtain ⟨razp1179, rbzp1179, rczp1179, rdzp1179, rezp1179, rfzp1179⟩ := id zp1179
      refine g_iadd (by first | with_reducible assumption | omega) (fun v1181 ev1181 => ?_)
      refine g_iconst (by decide) (fun v1182 kv1182 => ?_)
      refine g_isub (by first | with_reducible assumption | omega) (fun v1183 ev1183 => ?_)
      refine g_istore (l' := [(0, .ref 19), (1, .int v1108), (2, .int v1120), (3, .int v1134), (4, .int v1183)]) rfl rfl ?_
      refine g_nop ?_
      have al1184 : pM5 b T g = (pTake T 5 7 (pM4 b T g)) := by unfold pM5; first | rw [if_pos (by first | with_reducible assumption | omega)] | rw [if_neg (by first | with_reducible assumption | omega)]
      have zp1185 := zp1179
      rw [← al1184] at zp1185
      rw [← al1184] at zp1180
      obtain ⟨razp1185, rbzp1185, rczp1185, rdzp1185, rezp1185, rfzp1185⟩ := id zp1185
      refine g_aload_n rfl ?_
      refine g_iload_n rfl ?_
      refine g_invvi (rS_I hI (by first | with_reducible assumption | omega)) sx_19 rfl rfl rfl rfl (f_47 v1120 (by first | with_reducible assumption | omega) H hI hJ y1174 y1175 y1176 y1177 y1178 (by first | with_reducible assumption | omega) hp0 zp1185 hp2) (fun v1188 H1186 r1187 => ?_)
      obtain ⟨y1189, y1190, y1191, y1192, y1193, rfl, by1189, zp1194, zp1195, zp1196⟩ := r1187
      obtain ⟨razp1194, rbzp1194, rczp1194, rdzp1194, rezp1194, rfzp1194⟩ := id zp1194
      have al1197 : pM6 b T g = (pSec b T v1120.toInt (pM5 b T g)) := by unfold pM6; rw [← zp1127]
      have zp1198 := zp1194
      rw [← al1197] at zp1198
      rw [← al1197] at zp1196
      obtain ⟨razp1198, rbzp1198, rczp1198, rdzp1198, rezp1198, rfzp1198⟩ := id zp1198
      refine g_istore (l' := [(0, .ref 19), (1, .int v1108), (2, .int v1120), (3, .int v1134), (4, .int v1183), (5, .int v1188)]) rfl rfl ?_
      refine g_aload_n rfl ?_
      refine g_gfk (rS_I hI (by first | with_reducible assumption | omega)) sx_19 rfl (rS_g5 hI) ?_
      refine g_if_ne (fun c1199 => ?_) (fun c1199 => ?_)
      · exact g_ret ⟨rfl, H, y1189, y1190, y1191, y1192, y1193, rfl, hI, hJ, (by first | with_reducible assumption | omega), zp1198, hp0, (by unfold bMg; rw [if_neg (by first | with_reducible assumption | omega)]; exact hp2), (fun _ _ => rfl), rfl⟩
      · refine g_aload_n rfl ?_
        refine g_gfr (rS_I hI (by first | with_reducible assumption | omega)) sx_19 rfl ?_
        refine g_iload_n rfl ?_
        refine g_iload_n rfl ?_
        refine g_iload_n rfl ?_
        refine g_iload rfl ?_
        refine g_iload rfl ?_
        refine g_invvv (rS_I hI (by first | with_reducible assumption | omega)) sx_11 rfl rfl rfl rfl (h_16 v1108 v1120 v1134 (by first | with_reducible assumption | omega) v1188 (by first | with_reducible assumption | omega) v1183 H hI hJ y1189 y1190 y1191 y1192 y1193 (by first | with_reducible assumption | omega) hp2 (by first | with_reducible assumption | omega) (by first | with_reducible assumption | omega)) (fun H1200 r1201 => ?_)
        obtain ⟨B1205, rfl, hIB1205, hJB1205, zp1202, zp1203, zp1204⟩ := r1201
        have knzp1203 : v1183.toInt = pKn b T g := by unfold pKn; first | (rw [if_pos (by first | with_reducible assumption | omega)]; omega) | (rw [if_neg (by first | with_reducible assumption | omega)]; omega)
        refine g_nop ?_
        exact g_ret ⟨rfl, B1205, y1189, y1190, y1191, y1192, y1193, rfl, hIB1205, hJB1205, (by first | with_reducible assumption | omega), zp1198, (tk_fr hp0 zp1202), (by unfold bMg; rw [if_pos (by first | with_reducible assumption | omega)]; rw [zp1195, zp1115, zp1127, zp1141, knzp1203] at zp1203; exact zp1203), zp1202, zp1204⟩
set_option maxRecDepth 4000 in
set_option maxHeartbeats 4000000 in
/-- X4.readLine, exactly -/
theorem h_41 (H : mzH) (hI : gI SX H) (hJ : JX H) (x0 x1 x2 x3 x4 : Int32) (hx0 : 0 ≤ x0.toInt ∧ x0.toInt ≤ 900) {T : pT} {g : pG} {b : pB} (hp0 : tkH H T) (hp1 : rdX T g x0 x1 x2 x3 x4) (hp2 : bkX H 11 b) : gCall 41 [.ref 19] (rS H x0 x1 x2 x3 x4) (gRv (fun H' => ∃ B : mzH, ∃ y0 y1 y2 y3 y4 : Int32, H' = rS B y0 y1 y2 y3 y4 ∧ gI SX B ∧ JX B ∧ (0 ≤ y0.toInt ∧ y0.toInt ≤ 900) ∧ rdX T (pLn b T g) y0 y1 y2 y3 y4 ∧ tkH B T ∧ bkX B 11 (bLn b T g) ∧ frD H B ∧ wX B = xLn b T g (wX H))) := by
  obtain ⟨r0, r1, r2, r3, r4, r5⟩ := id hp1
  have w0 := hp0.2
  refine gG_call [(0, .ref 19)] ⟨rfl, trivial⟩ ?_
  show gG 1 zB_41 (mzBlk zB_41 0) [(0, .ref 19)] [] (rS H x0 x1 x2 x3 x4) 0 0 _
  refine g_aload_n rfl ?_
  refine g_gfk (rS_I hI (by first | with_reducible assumption | omega)) sx_19 rfl (rS_g3 hI) ?_
  refine g_sw (by decide) (fun c557 => ?_) ⟨fun c557 => ?_, fun c557 => ?_, fun c557 => ?_, fun c557 => ?_, trivial⟩
  · refine g_aload_n rfl ?_
    refine g_iconst (by decide) (fun v558 kv558 => ?_)
    refine g_invvv (rS_I hI (by first | with_reducible assumption | omega)) sx_19 rfl rfl rfl rfl (f_40 v558 (by first | with_reducible assumption | omega) H hI hJ x0 x1 x2 x3 x4 (by first | with_reducible assumption | omega) hp0 hp1) (fun H559 r560 => ?_)
    obtain ⟨y561, y562, rfl, zp563⟩ := r560
    rw [kv558] at zp563
    obtain ⟨razp563, rbzp563, rczp563, rdzp563, rezp563, rfzp563⟩ := id zp563
    have nzp563 := pF_ne (T := T) (g := g) (n := 1) (by first | with_reducible assumption | omega)
    have al564 : pLn1 b T g = (pFail T 1 g) := by unfold pLn1; first | rw [if_pos (by first | with_reducible assumption | omega)] | rw [if_neg (by first | with_reducible assumption | omega), if_pos (by first | with_reducible assumption | omega)] | rw [if_neg (by first | with_reducible assumption | omega), if_neg (by first | with_reducible assumption | omega), if_pos (by first | with_reducible assumption | omega)] | rw [if_neg (by first | with_reducible assumption | omega), if_neg (by first | with_reducible assumption | omega), if_neg (by first | with_reducible assumption | omega), if_pos (by first | with_reducible assumption | omega)] | rw [if_neg (by first | with_reducible assumption | omega), if_neg (by first | with_reducible assumption | omega), if_neg (by first | with_reducible assumption | omega), if_neg (by first | with_reducible assumption | omega)]
    have zp565 := zp563
    rw [← al564] at zp565
    obtain ⟨razp565, rbzp565, rczp565, rdzp565, rezp565, rfzp565⟩ := id zp565
    refine g_nop ?_
    refine g_aload_n rfl ?_
    refine g_bipush (by decide) (fun v566 kv566 => ?_)
    refine g_bipush (by decide) (fun v567 kv567 => ?_)
    refine g_invvi (rS_I hI (by first | with_reducible assumption | omega)) sx_19 rfl rfl rfl rfl (f_50 v566 v567 H hI hJ x0 x1 x2 y561 y562 (by first | with_reducible assumption | omega) hp0 zp565) (fun v570 H568 r569 => ?_)
    obtain ⟨y571, y572, y573, y574, y575, rfl, by571, zp576, zp577⟩ := r569
    rw [kv566] at zp576
    rw [kv566] at zp577
    rw [kv567] at zp576
    rw [kv567] at zp577
    obtain ⟨razp576, rbzp576, rczp576, rdzp576, rezp576, rfzp576⟩ := id zp576
    have al578 : pLn b T g = (pTake T 20 20 (pLn1 b T g)) := by rfl
    have zp579 := zp576
    rw [← al578] at zp579
    rw [← al578] at zp577
    obtain ⟨razp579, rbzp579, rczp579, rdzp579, rezp579, rfzp579⟩ := id zp579
    refine g_pop rfl ?_
    exact g_ret ⟨rfl, H, y571, y572, y573, y574, y575, rfl, hI, hJ, (by first | with_reducible assumption | omega), zp579, hp0, (by unfold bLn; (first | rw [if_pos (by first | with_reducible assumption | omega)] | rw [if_neg (by first | with_reducible assumption | omega), if_pos (by first | with_reducible assumption | omega)] | rw [if_neg (by first | with_reducible assumption | omega), if_neg (by first | with_reducible assumption | omega), if_pos (by first | with_reducible assumption | omega)] | rw [if_neg (by first | with_reducible assumption | omega), if_neg (by first | with_reducible assumption | omega), if_neg (by first | with_reducible assumption | omega), if_pos (by first | with_reducible assumption | omega)] | rw [if_neg (by first | with_reducible assumption | omega), if_neg (by first | with_reducible assumption | omega), if_neg (by first | with_reducible assumption | omega), if_neg (by first | with_reducible assumption | omega)]); exact hp2), (fun _ _ => rfl), (by unfold xLn; rw [if_neg (by first | with_reducible assumption | omega), if_neg (by first | with_reducible assumption | omega)])⟩
  · refine g_aload_n rfl ?_
    refine g_invvv (rS_I hI (by first | with_reducible assumption | omega)) sx_19 rfl rfl rfl rfl (h_42 H hI hJ x0 x1 x2 x3 x4 (by first | with_reducible assumption | omega) hp0 hp1 hp2) (fun H580 r581 => ?_)
    obtain ⟨B592, y582, y583, y584, y585, y586, rfl, hIB592, hJB592, by582, zp587, zp588, zp589, zp590, zp591⟩ := r581
    obtain ⟨razp587, rbzp587, rczp587, rdzp587, rezp587, rfzp587⟩ := id zp587
    have al593 : pLn1 b T g = (pRdP b T g) := by unfold pLn1; first | rw [if_pos (by first | with_reducible assumption | omega)] | rw [if_neg (by first | with_reducible assumption | omega), if_pos (by first | with_reducible assumption | omega)] | rw [if_neg (by first | with_reducible assumption | omega), if_neg (by first | with_reducible assumption | omega), if_pos (by first | with_reducible assumption | omega)] | rw [if_neg (by first | with_reducible assumption | omega), if_neg (by first | with_reducible assumption | omega), if_neg (by first | with_reducible assumption | omega), if_pos (by first | with_reducible assumption | omega)] | rw [if_neg (by first | with_reducible assumption | omega), if_neg (by first | with_reducible assumption | omega), if_neg (by first | with_reducible assumption | omega), if_neg (by first | with_reducible assumption | omega)]
    have zp594 := zp587
    rw [← al593] at zp594
    obtain ⟨razp594, rbzp594, rczp594, rdzp594, rezp594, rfzp594⟩ := id zp594
    refine g_goto ?_
    refine g_aload_n rfl ?_
    refine g_bipush (by decide) (fun v595 kv595 => ?_)
    refine g_bipush (by decide) (fun v596 kv596 => ?_)
    refine g_invvi (rS_I hIB592 (by first | with_reducible assumption | omega)) sx_19 rfl rfl rfl rfl (f_50 v595 v596 B592 hIB592 hJB592 y582 y583 y584 y585 y586 (by first | with_reducible assumption | omega) zp588 zp594) (fun v599 H597 r598 => ?_)
    obtain ⟨y600, y601, y602, y603, y604, rfl, by600, zp605, zp606⟩ := r598
    rw [kv595] at zp605
    rw [kv595] at zp606
    rw [kv596] at zp605
    rw [kv596] at zp606
    obtain ⟨razp605, rbzp605, rczp605, rdzp605, rezp605, rfzp605⟩ := id zp605
    have al607 : pLn b T g = (pTake T 20 20 (pLn1 b T g)) := by rfl
    have zp608 := zp605
    rw [← al607] at zp608
    rw [← al607] at zp606
    obtain ⟨razp608, rbzp608, rczp608, rdzp608, rezp608, rfzp608⟩ := id zp608
    refine g_pop rfl ?_
    exact g_ret ⟨rfl, B592, y600, y601, y602, y603, y604, rfl, hIB592, hJB592, (by first | with_reducible assumption | omega), zp608, zp588, (by unfold bLn; (first | rw [if_pos (by first | with_reducible assumption | omega)] | rw [if_neg (by first | with_reducible assumption | omega), if_pos (by first | with_reducible assumption | omega)] | rw [if_neg (by first | with_reducible assumption | omega), if_neg (by first | with_reducible assumption | omega), if_pos (by first | with_reducible assumption | omega)] | rw [if_neg (by first | with_reducible assumption | omega), if_neg (by first | with_reducible assumption | omega), if_neg (by first | with_reducible assumption | omega), if_pos (by first | with_reducible assumption | omega)] | rw [if_neg (by first | with_reducible assumption | omega), if_neg (by first | with_reducible assumption | omega), if_neg (by first | with_reducible assumption | omega), if_neg (by first | with_reducible assumption | omega)]); exact zp589), zp590, (by unfold xLn; rw [if_pos (by first | with_reducible assumption | omega)]; exact zp591)⟩
  · refine g_aload_n rfl ?_
    refine g_invvv (rS_I hI (by first | with_reducible assumption | omega)) sx_19 rfl rfl rfl rfl (h_43 H hI hJ x0 x1 x2 x3 x4 (by first | with_reducible assumption | omega) hp0 hp1 hp2) (fun H609 r610 => ?_)
    obtain ⟨B621, y611, y612, y613, y614, y615, rfl, hIB621, hJB621, by611, zp616, zp617, zp618, zp619, zp620⟩ := r610
    obtain ⟨razp616, rbzp616, rczp616, rdzp616, rezp616, rfzp616⟩ := id zp616
    have al622 : pLn1 b T g = (pRdR b T g) := by unfold pLn1; first | rw [if_pos (by first | with_reducible assumption | omega)] | rw [if_neg (by first | with_reducible assumption | omega), if_pos (by first | with_reducible assumption | omega)] | rw [if_neg (by first | with_reducible assumption | omega), if_neg (by first | with_reducible assumption | omega), if_pos (by first | with_reducible assumption | omega)] | rw [if_neg (by first | with_reducible assumption | omega), if_neg (by first | with_reducible assumption | omega), if_neg (by first | with_reducible assumption | omega), if_pos (by first | with_reducible assumption | omega)] | rw [if_neg (by first | with_reducible assumption | omega), if_neg (by first | with_reducible assumption | omega), if_neg (by first | with_reducible assumption | omega), if_neg (by first | with_reducible assumption | omega)]
    have zp623 := zp616
    rw [← al622] at zp623
    obtain ⟨razp623, rbzp623, rczp623, rdzp623, rezp623, rfzp623⟩ := id zp623
    refine g_goto ?_
    refine g_aload_n rfl ?_
    refine g_bipush (by decide) (fun v624 kv624 => ?_)
    refine g_bipush (by decide) (fun v625 kv625 => ?_)
    refine g_invvi (rS_I hIB621 (by first | with_reducible assumption | omega)) sx_19 rfl rfl rfl rfl (f_50 v624 v625 B621 hIB621 hJB621 y611 y612 y613 y614 y615 (by first | with_reducible assumption | omega) zp617 zp623) (fun v628 H626 r627 => ?_)
    obtain ⟨y629, y630, y631, y632, y633, rfl, by629, zp634, zp635⟩ := r627
    rw [kv624] at zp634
    rw [kv624] at zp635
    rw [kv625] at zp634
    rw [kv625] at zp635
    obtain ⟨razp634, rbzp634, rczp634, rdzp634, rezp634, rfzp634⟩ := id zp634
    have al636 : pLn b T g = (pTake T 20 20 (pLn1 b T g)) := by rfl
    have zp637 := zp634
    rw [← al636] at zp637
    rw [← al636] at zp635
    obtain ⟨razp637, rbzp637, rczp637, rdzp637, rezp637, rfzp637⟩ := id zp637
    refine g_pop rfl ?_
    exact g_ret ⟨rfl, B621, y629, y630, y631, y632, y633, rfl, hIB621, hJB621, (by first | with_reducible assumption | omega), zp637, zp617, (by unfold bLn; (first | rw [if_pos (by first | with_reducible assumption | omega)] | rw [if_neg (by first | with_reducible assumption | omega), if_pos (by first | with_reducible assumption | omega)] | rw [if_neg (by first | with_reducible assumption | omega), if_neg (by first | with_reducible assumption | omega), if_pos (by first | with_reducible assumption | omega)] | rw [if_neg (by first | with_reducible assumption | omega), if_neg (by first | with_reducible assumption | omega), if_neg (by first | with_reducible assumption | omega), if_pos (by first | with_reducible assumption | omega)] | rw [if_neg (by first | with_reducible assumption | omega), if_neg (by first | with_reducible assumption | omega), if_neg (by first | with_reducible assumption | omega), if_neg (by first | with_reducible assumption | omega)]); exact zp618), zp619, (by unfold xLn; rw [if_neg (by first | with_reducible assumption | omega), if_pos (by first | with_reducible assumption | omega)]; exact zp620)⟩
  · refine g_aload_n rfl ?_
    refine g_invvv (rS_I hI (by first | with_reducible assumption | omega)) sx_19 rfl rfl rfl rfl (h_44 H hI hJ x0 x1 x2 x3 x4 (by first | with_reducible assumption | omega) hp0 hp1 hp2) (fun H638 r639 => ?_)
    obtain ⟨B650, y640, y641, y642, y643, y644, rfl, hIB650, hJB650, by640, zp645, zp646, zp647, zp648, zp649⟩ := r639
    obtain ⟨razp645, rbzp645, rczp645, rdzp645, rezp645, rfzp645⟩ := id zp645
    have al651 : pLn1 b T g = (pRdF b T g) := by unfold pLn1; first | rw [if_pos (by first | with_reducible assumption | omega)] | rw [if_neg (by first | with_reducible assumption | omega), if_pos (by first | with_reducible assumption | omega)] | rw [if_neg (by first | with_reducible assumption | omega), if_neg (by first | with_reducible assumption | omega), if_pos (by first | with_reducible assumption | omega)] | rw [if_neg (by first | with_reducible assumption | omega), if_neg (by first | with_reducible assumption | omega), if_neg (by first | with_reducible assumption | omega), if_pos (by first | with_reducible assumption | omega)] | rw [if_neg (by first | with_reducible assumption | omega), if_neg (by first | with_reducible assumption | omega), if_neg (by first | with_reducible assumption | omega), if_neg (by first | with_reducible assumption | omega)]
    have zp652 := zp645
    rw [← al651] at zp652
    obtain ⟨razp652, rbzp652, rczp652, rdzp652, rezp652, rfzp652⟩ := id zp652
    refine g_goto ?_
    refine g_aload_n rfl ?_
    refine g_bipush (by decide) (fun v653 kv653 => ?_)
    refine g_bipush (by decide) (fun v654 kv654 => ?_)
    refine g_invvi (rS_I hIB650 (by first | with_reducible assumption | omega)) sx_19 rfl rfl rfl rfl (f_50 v653 v654 B650 hIB650 hJB650 y640 y641 y642 y643 y644 (by first | with_reducible assumption | omega) zp646 zp652) (fun v657 H655 r656 => ?_)
    obtain ⟨y658, y659, y660, y661, y662, rfl, by658, zp663, zp664⟩ := r656
    rw [kv653] at zp663
    rw [kv653] at zp664
    rw [kv654] at zp663
    rw [kv654] at zp664
    obtain ⟨razp663, rbzp663, rczp663, rdzp663, rezp663, rfzp663⟩ := id zp663
    have al665 : pLn b T g = (pTake T 20 20 (pLn1 b T g)) := by rfl
    have zp666 := zp663
    rw [← al665] at zp666
    rw [← al665] at zp664
    obtain ⟨razp666, rbzp666, rczp666, rdzp666, rezp666, rfzp666⟩ := id zp666
    refine g_pop rfl ?_
    exact g_ret ⟨rfl, B650, y658, y659, y660, y661, y662, rfl, hIB650, hJB650, (by first | with_reducible assumption | omega), zp666, zp646, (by unfold bLn; (first | rw [if_pos (by first | with_reducible assumption | omega)] | rw [if_neg (by first | with_reducible assumption | omega), if_pos (by first | with_reducible assumption | omega)] | rw [if_neg (by first | with_reducible assumption | omega), if_neg (by first | with_reducible assumption | omega), if_pos (by first | with_reducible assumption | omega)] | rw [if_neg (by first | with_reducible assumption | omega), if_neg (by first | with_reducible assumption | omega), if_neg (by first | with_reducible assumption | omega), if_pos (by first | with_reducible assumption | omega)] | rw [if_neg (by first | with_reducible assumption | omega), if_neg (by first | with_reducible assumption | omega), if_neg (by first | with_reducible assumption | omega), if_neg (by first | with_reducible assumption | omega)]); exact zp647), zp648, (by unfold xLn; rw [if_neg (by first | with_reducible assumption | omega), if_neg (by first | with_reducible assumption | omega)]; exact zp649)⟩
  · refine g_aload_n rfl ?_
    refine g_invvv (rS_I hI (by first | with_reducible assumption | omega)) sx_19 rfl rfl rfl rfl (h_45 H hI hJ x0 x1 x2 x3 x4 (by first | with_reducible assumption | omega) hp0 hp1 hp2) (fun H667 r668 => ?_)
    obtain ⟨B679, y669, y670, y671, y672, y673, rfl, hIB679, hJB679, by669, zp674, zp675, zp676, zp677, zp678⟩ := r668
    obtain ⟨razp674, rbzp674, rczp674, rdzp674, rezp674, rfzp674⟩ := id zp674
    have al680 : pLn1 b T g = (pM6 b T g) := by unfold pLn1; first | rw [if_pos (by first | with_reducible assumption | omega)] | rw [if_neg (by first | with_reducible assumption | omega), if_pos (by first | with_reducible assumption | omega)] | rw [if_neg (by first | with_reducible assumption | omega), if_neg (by first | with_reducible assumption | omega), if_pos (by first | with_reducible assumption | omega)] | rw [if_neg (by first | with_reducible assumption | omega), if_neg (by first | with_reducible assumption | omega), if_neg (by first | with_reducible assumption | omega), if_pos (by first | with_reducible assumption | omega)] | rw [if_neg (by first | with_reducible assumption | omega), if_neg (by first | with_reducible assumption | omega), if_neg (by first | with_reducible assumption | omega), if_neg (by first | with_reducible assumption | omega)]
    have zp681 := zp674
    rw [← al680] at zp681
    obtain ⟨razp681, rbzp681, rczp681, rdzp681, rezp681, rfzp681⟩ := id zp681
    refine g_goto ?_
    refine g_aload_n rfl ?_
    refine g_bipush (by decide) (fun v682 kv682 => ?_)
    refine g_bipush (by decide) (fun v683 kv683 => ?_)
    refine g_invvi (rS_I hIB679 (by first | with_reducible assumption | omega)) sx_19 rfl rfl rfl rfl (f_50 v682 v683 B679 hIB679 hJB679 y669 y670 y671 y672 y673 (by first | with_reducible assumption | omega) zp675 zp681) (fun v686 H684 r685 => ?_)
    obtain ⟨y687, y688, y689, y690, y691, rfl, by687, zp692, zp693⟩ := r685
    rw [kv682] at zp692
    rw [kv682] at zp693
    rw [kv683] at zp692
    rw [kv683] at zp693
    obtain ⟨razp692, rbzp692, rczp692, rdzp692, rezp692, rfzp692⟩ := id zp692
    have al694 : pLn b T g = (pTake T 20 20 (pLn1 b T g)) := by rfl
    have zp695 := zp692
    rw [← al694] at zp695
    rw [← al694] at zp693
    obtain ⟨razp695, rbzp695, rczp695, rdzp695, rezp695, rfzp695⟩ := id zp695
    refine g_pop rfl ?_
    exact g_ret ⟨rfl, B679, y687, y688, y689, y690, y691, rfl, hIB679, hJB679, (by first | with_reducible assumption | omega), zp695, zp675, (by unfold bLn; (first | rw [if_pos (by first | with_reducible assumption | omega)] | rw [if_neg (by first | with_reducible assumption | omega), if_pos (by first | with_reducible assumption | omega)] | rw [if_neg (by first | with_reducible assumption | omega), if_neg (by first | with_reducible assumption | omega), if_pos (by first | with_reducible assumption | omega)] | rw [if_neg (by first | with_reducible assumption | omega), if_neg (by first | with_reducible assumption | omega), if_neg (by first | with_reducible assumption | omega), if_pos (by first | with_reducible assumption | omega)] | rw [if_neg (by first | with_reducible assumption | omega), if_neg (by first | with_reducible assumption | omega), if_neg (by first | with_reducible assumption | omega), if_neg (by first | with_reducible assumption | omega)]); exact zp676), zp677, (by unfold xLn; rw [if_neg (by first | with_reducible assumption | omega), if_neg (by first | with_reducible assumption | omega)]; exact zp678)⟩
set_option maxRecDepth 4000 in
set_option maxHeartbeats 4000000 in
/-- X4.read, exactly -/
theorem h_38 (a1 : Int32) (ha1 : 0 ≤ a1.toInt ∧ a1.toInt ≤ 900) (a2 : Int32) (ha2 : 0 ≤ a2.toInt ∧ a2.toInt ≤ 1) (H : mzH) (hI : gI SX H) (hJ : JX H) (x0 x1 x2 x3 x4 : Int32) (hx0 : 0 ≤ x0.toInt ∧ x0.toInt ≤ 900) {b : pB} (hp0 : a1.toInt ≤ (fZ H 1 1).toInt) (hp1 : bkX H 11 b) : gCall 38 [.ref 19, .int a1, .int a2] (rS H x0 x1 x2 x3 x4) (gRi (fun v H' => ∃ B : mzH, ∃ y0 y1 y2 y3 y4 : Int32, H' = rS B y0 y1 y2 y3 y4 ∧ gI SX B ∧ JX B ∧ (0 ≤ v.toInt ∧ v.toInt ≤ 1) ∧ (0 ≤ y0.toInt ∧ y0.toInt ≤ 900) ∧ rdEw H B a1 a2 b y0 y1 y2 y3 y4 ∧ ((v.toInt = 1 ∧ y3.toInt = 0) ∨ (v.toInt = 0 ∧ ¬ y3.toInt = 0)))) := by
  refine gG_call [(0, .ref 19), (1, .int a1), (2, .int a2)] ⟨rfl, rfl, rfl, trivial⟩ ?_
  show gG 3 zB_38 (mzBlk zB_38 0) [(0, .ref 19), (1, .int a1), (2, .int a2)] [] (rS H x0 x1 x2 x3 x4) 0 0 _
  refine g_aload_n rfl ?_
  refine g_gfr (rS_I hI (by first | with_reducible assumption | omega)) sx_19 rfl ?_
  refine g_iload_n rfl ?_
  refine g_invvv (rS_I hI (by first | with_reducible assumption | omega)) sx_20 rfl rfl rfl rfl (f_73r a1 (by first | with_reducible assumption | omega) H hI hJ x0 x1 x2 x3 x4 (by first | with_reducible assumption | omega) (by first | with_reducible assumption | omega)) (fun H425 r426 => ?_)
  obtain ⟨B430, rfl, hIB430, hJB430, zp427, zp428, zp429⟩ := r426
  obtain ⟨T, hT⟩ : ∃ T : pT, T = (kX B430, sX B430, vX B430, (fZ B430 20 4).toInt.toNat - 1) := ⟨_, rfl⟩
  have tkB430 : tkH B430 T := tk_new hT zp428
  have taB430 : tkA (bX H) a1.toInt.toNat T.K T.S T.V T.M := by rw [hT]; exact zp429
  have bkB430 := bk_fr (fun c h1 h2 => zp427 c (by first | with_reducible assumption | omega) (by first | with_reducible assumption | omega) (by first | with_reducible assumption | omega) (by first | with_reducible assumption | omega) (by first | with_reducible assumption | omega)) hp1
  have frB430 := fr_cut zp427
  have wM := tkB430.2
  have w4 := fZ_of hIB430 sx_20 (f := 4) rfl
  have wxc : wX B430 = wX H := wX_cg (zp427 13 (by decide) (by decide) (by decide) (by decide) (by decide))
  refine g_aload_n rfl ?_
  refine g_iconst (by decide) (fun v431 kv431 => ?_)
  refine g_pfi (rS_I hIB430 (by first | with_reducible assumption | omega)) sx_19 rfl (gz_any _) (fun H432 eH432 hIH432 => ?_)
  obtain rfl : H432 = (rS B430 x0 x1 x2 v431 x4) := eH432.trans (rS_s5 hIB430)
  refine g_aload_n rfl ?_
  refine g_iconst (by decide) (fun v433 kv433 => ?_)
  refine g_pfi (rS_I hIB430 (by first | with_reducible assumption | omega)) sx_19 rfl (gz_any _) (fun H434 eH434 hIH434 => ?_)
  obtain rfl : H434 = (rS B430 x0 x1 x2 v431 v433) := eH434.trans (rS_s6 hIB430)
  refine g_aload_n rfl ?_
  refine g_iconst (by decide) (fun v435 kv435 => ?_)
  refine g_pfi (rS_I hIB430 (by first | with_reducible assumption | omega)) sx_19 rfl (gz_any _) (fun H436 eH436 hIH436 => ?_)
  obtain ⟨B437, eB437⟩ : ∃ z, z = sF B430 19 7 v435 := ⟨_, rfl⟩
  obtain rfl : H436 = (rS B437 x0 x1 x2 v431 v433) := by rw [eH436, eB437]; exact rS_cF (by decide)
  have hIB437 : gI SX B437 := by rw [eB437]; exact gI_sF hIB430 sx_19 rfl (gz_any _)
  have hJB437 : JX B437 := JX_sF eB437 hJB430
  have tkB437 : tkH B437 T := tk_19 eB437 tkB430
  have bkB437 := bk_19 eB437 bkB430
  have frB437 := fr_19 eB437 frB430
  have wxB437 : wX B437 = wX B430 := wX_F eB437
  have jB437_19_7 : (fZ B437 19 7).toInt = v435.toInt := by rw [eB437, fZ_sF_eq hIB430 sx_19 rfl]
  refine g_aload_n rfl ?_
  refine g_iconst (by decide) (fun v438 kv438 => ?_)
  refine g_invvv (rS_I hIB437 (by first | with_reducible assumption | omega)) sx_19 rfl rfl rfl rfl (f_39 v438 (by first | with_reducible assumption | omega) B437 hIB437 hJB437 x0 x1 x2 v431 v433 (by first | with_reducible assumption | omega) tkB437) (fun H439 r440 => ?_)
  obtain ⟨y441, y442, y443, rfl, by441, zp444⟩ := r440
  refine g_nop ?_
  have L451 : ∀ (N : Nat) (z445 : Int32) (z446 : Int32) (z447 : Int32) (z448 : Int32) (z449 : Int32) (B450 : mzH), (0 ≤ z445.toInt ∧ z445.toInt ≤ 900) → gI SX B450 → JX B450 → frE H B450 → tkH B450 T → bkX B450 11 (pIt a2.toInt T (fZ B450 19 7).toInt.toNat b).1 → rdX T (pIt a2.toInt T (fZ B450 19 7).toInt.toNat b).2 z445 z446 z447 z448 z449 → pGoes a2.toInt T b (fZ B450 19 7).toInt.toNat → (0 ≤ (fZ B450 19 7).toInt ∧ (fZ B450 19 7).toInt ≤ 900) → wX B450 = xIt a2.toInt T (fZ B450 19 7).toInt.toNat b (wX H) → (900 - (fZ B450 19 7).toInt).toNat < N → gG 3 zB_38 (mzBlk zB_38 1) [(0, .ref 19), (1, .int a1), (2, .int a2)] [] (rS B450 z445 z446 z447 z448 z449) 0 0 (gRi (fun v H' => ∃ B : mzH, ∃ y0 y1 y2 y3 y4 : Int32, H' = rS B y0 y1 y2 y3 y4 ∧ gI SX B ∧ JX B ∧ (0 ≤ v.toInt ∧ v.toInt ≤ 1) ∧ (0 ≤ y0.toInt ∧ y0.toInt ≤ 900) ∧ rdEw H B a1 a2 b y0 y1 y2 y3 y4 ∧ ((v.toInt = 1 ∧ y3.toInt = 0) ∨ (v.toInt = 0 ∧ ¬ y3.toInt = 0)))) := by
    intro N
    induction N with
    | zero => intro z445 z446 z447 z448 z449 B450 bz445 hIB450 hJB450 q0 q1 q2 q3 q4 q5 q6 hmL451; exact absurd hmL451 (Nat.not_lt_zero _)
    | succ N ihL451 =>
      intro z445 z446 z447 z448 z449 B450 bz445 hIB450 hJB450 q0 q1 q2 q3 q4 q5 q6 hmL451
      obtain ⟨qa, qb, qc, qd, qe, qf⟩ := id q3
      refine g_aload_n rfl ?_
      refine g_gfi (rS_I hIB450 (by first | with_reducible assumption | omega)) sx_19 rfl (fun v452 ev452 lv452 uv452 => ?_)
      have iv452 : v452.toInt = (fZ B450 19 7).toInt := by rw [ev452, ← rS_o (by decide)]
      refine g_sipush (by decide) (fun v453 kv453 => ?_)
      refine g_if2_ge (fun c454 => ?_) (fun c454 => ?_)
      · refine g_aload_n rfl ?_
        refine g_gfk (rS_I hIB450 (by first | with_reducible assumption | omega)) sx_19 rfl (rS_g5 hIB450) ?_
        refine g_if_ne (fun c455 => ?_) (fun c455 => ?_)
        · refine g_iconst (by decide) (fun v456 kv456 => ?_)
          refine g_nop ?_
          exact g_zret (by first | with_reducible assumption | omega) ⟨_, rfl, B450, z445, z446, z447, z448, z449, rfl, hIB450, hJB450, (by first | with_reducible assumption | omega), (by first | with_reducible assumption | omega), ⟨T, (fZ B450 19 7).toInt.toNat, taB430, ⟨q4, gs_end q4 taB430.2.1 (by first | with_reducible assumption | omega) (by first | with_reducible assumption | omega)⟩, q3, q2, by omega, q0, q6⟩, (by first | with_reducible assumption | omega)⟩
        · refine g_iconst (by decide) (fun v457 kv457 => ?_)
          refine g_goto ?_
          exact g_zret (by first | with_reducible assumption | omega) ⟨_, rfl, B450, z445, z446, z447, z448, z449, rfl, hIB450, hJB450, (by first | with_reducible assumption | omega), (by first | with_reducible assumption | omega), ⟨T, (fZ B450 19 7).toInt.toNat, taB430, ⟨q4, gs_end q4 taB430.2.1 (by first | with_reducible assumption | omega) (by first | with_reducible assumption | omega)⟩, q3, q2, by omega, q0, q6⟩, (by first | with_reducible assumption | omega)⟩
      · refine g_aload_n rfl ?_
        refine g_gfk (rS_I hIB450 (by first | with_reducible assumption | omega)) sx_19 rfl (rS_g5 hIB450) ?_
        refine g_if_ne (fun c458 => ?_) (fun c458 => ?_)
        · refine g_aload_n rfl ?_
          refine g_gfk (rS_I hIB450 (by first | with_reducible assumption | omega)) sx_19 rfl (rS_g5 hIB450) ?_
          refine g_if_ne (fun c459 => ?_) (fun c459 => ?_)
          · refine g_iconst (by decide) (fun v460 kv460 => ?_)
            refine g_nop ?_
            exact g_zret (by first | with_reducible assumption | omega) ⟨_, rfl, B450, z445, z446, z447, z448, z449, rfl, hIB450, hJB450, (by first | with_reducible assumption | omega), (by first | with_reducible assumption | omega), ⟨T, (fZ B450 19 7).toInt.toNat, taB430, ⟨q4, gs_end q4 taB430.2.1 (by first | with_reducible assumption | omega) (by first | with_reducible assumption | omega)⟩, q3, q2, by omega, q0, q6⟩, (by first | with_reducible assumption | omega)⟩
          · refine g_iconst (by decide) (fun v461 kv461 => ?_)
            refine g_goto ?_
            exact g_zret (by first | with_reducible assumption | omega) ⟨_, rfl, B450, z445, z446, z447, z448, z449, rfl, hIB450, hJB450, (by first | with_reducible assumption | omega), (by first | with_reducible assumption | omega), ⟨T, (fZ B450 19 7).toInt.toNat, taB430, ⟨q4, gs_end q4 taB430.2.1 (by first | with_reducible assumption | omega) (by first | with_reducible assumption | omega)⟩, q3, q2, by omega, q0, q6⟩, (by first | with_reducible assumption | omega)⟩
        · refine g_aload_n rfl ?_
          refine g_gfk (rS_I hIB450 (by first | with_reducible assumption | omega)) sx_19 rfl (rS_g3 hIB450) ?_
          refine g_bipush (by decide) (fun v462 kv462 => ?_)
          refine g_if2_eq (fun c463 => ?_) (fun c463 => ?_)
          · refine g_aload_n rfl ?_
            refine g_gfk (rS_I hIB450 (by first | with_reducible assumption | omega)) sx_19 rfl (rS_g5 hIB450) ?_
            refine g_if_ne (fun c464 => ?_) (fun c464 => ?_)
            · exfalso; omega
            · refine g_iconst (by decide) (fun v465 kv465 => ?_)
              refine g_goto ?_
              exact g_zret (by first | with_reducible assumption | omega) ⟨_, rfl, B450, z445, z446, z447, z448, z449, rfl, hIB450, hJB450, (by first | with_reducible assumption | omega), (by first | with_reducible assumption | omega), ⟨T, (fZ B450 19 7).toInt.toNat, taB430, ⟨q4, gs_end q4 taB430.2.1 (by first | with_reducible assumption | omega) (by first | with_reducible assumption | omega)⟩, q3, q2, by omega, q0, q6⟩, (by first | with_reducible assumption | omega)⟩
          · refine g_iload_n rfl ?_
            refine g_if_eq (fun c466 => ?_) (fun c466 => ?_)
            · have sg : pSg a2.toInt T (pIt a2.toInt T (fZ B450 19 7).toInt.toNat b).2 = (pIt a2.toInt T (fZ B450 19 7).toInt.toNat b).2 := by unfold pSg; rw [if_neg (by first | with_reducible assumption | omega)]
              have zq := q3
              rw [← sg] at zq
              refine g_aload_n rfl ?_
              refine g_invvv (rS_I hIB450 (by first | with_reducible assumption | omega)) sx_19 rfl rfl rfl rfl (h_41 B450 hIB450 hJB450 z445 z446 z447 z448 z449 (by first | with_reducible assumption | omega) q1 zq q2) (fun H467 r468 => ?_)
              obtain ⟨B479, y469, y470, y471, y472, y473, rfl, hIB479, hJB479, by469, zp474, zp475, zp476, zp477, zp478⟩ := r468
              obtain ⟨razp474, rbzp474, rczp474, rdzp474, rezp474, rfzp474⟩ := id zp474
              have f19 : (fZ B479 19 7).toInt = (fZ B450 19 7).toInt := by rw [fZ_cg (zp477 19 (by decide))]
              have frB479 := fr_ln q0 zp477
              refine g_aload_n rfl ?_
              refine g_dup rfl ?_
              refine g_gfi (rS_I hIB479 (by first | with_reducible assumption | omega)) sx_19 rfl (fun v480 ev480 lv480 uv480 => ?_)
              have iv480 : v480.toInt = (fZ B479 19 7).toInt := by rw [ev480, ← rS_o (by decide)]
              refine g_iconst (by decide) (fun v481 kv481 => ?_)
              refine g_iadd (by first | with_reducible assumption | omega) (fun v482 ev482 => ?_)
              refine g_pfi (rS_I hIB479 (by first | with_reducible assumption | omega)) sx_19 rfl (gz_any _) (fun H483 eH483 hIH483 => ?_)
              obtain ⟨B484, eB484⟩ : ∃ z, z = sF B479 19 7 v482 := ⟨_, rfl⟩
              obtain rfl : H483 = (rS B484 y469 y470 y471 y472 y473) := by rw [eH483, eB484]; exact rS_cF (by decide)
              have hIB484 : gI SX B484 := by rw [eB484]; exact gI_sF hIB479 sx_19 rfl (gz_any _)
              have hJB484 : JX B484 := JX_sF eB484 hJB479
              have tkB484 : tkH B484 T := tk_19 eB484 zp475
              have bkB484 := bk_19 eB484 zp476
              have frB484 := fr_19 eB484 frB479
              have wxB484 : wX B484 = wX B479 := wX_F eB484
              have jB484_19_7 : (fZ B484 19 7).toInt = v482.toInt := by rw [eB484, fZ_sF_eq hIB479 sx_19 rfl]
              refine g_goto ?_
              exact ihL451 y469 y470 y471 y472 y473 B484 (by first | with_reducible assumption | omega) hIB484 hJB484 frB484 tkB484 (by rw [it_st (n := (fZ B450 19 7).toInt.toNat) (by first | with_reducible assumption | omega)]; exact bkB484) (by rw [it_st (n := (fZ B450 19 7).toInt.toNat) (by first | with_reducible assumption | omega)]; exact zp474) (gs_st q4 (by first | with_reducible assumption | omega) (fun h => by unfold pStop at h; omega)) (by first | with_reducible assumption | omega) (by rw [xi_st (n := (fZ B450 19 7).toInt.toNat) (by first | with_reducible assumption | omega), wxB484, zp478, q6]) (by first | with_reducible assumption | omega)
            · refine g_aload_n rfl ?_
              refine g_gfk (rS_I hIB450 (by first | with_reducible assumption | omega)) sx_19 rfl (rS_g3 hIB450) ?_
              refine g_iconst (by decide) (fun v485 kv485 => ?_)
              refine g_if2_eq (fun c486 => ?_) (fun c486 => ?_)
              · have sg : pSg a2.toInt T (pIt a2.toInt T (fZ B450 19 7).toInt.toNat b).2 = (pIt a2.toInt T (fZ B450 19 7).toInt.toNat b).2 := by unfold pSg; rw [if_neg (by first | with_reducible assumption | omega)]
                have zq := q3
                rw [← sg] at zq
                refine g_aload_n rfl ?_
                refine g_invvv (rS_I hIB450 (by first | with_reducible assumption | omega)) sx_19 rfl rfl rfl rfl (h_41 B450 hIB450 hJB450 z445 z446 z447 z448 z449 (by first | with_reducible assumption | omega) q1 zq q2) (fun H487 r488 => ?_)
                obtain ⟨B499, y489, y490, y491, y492, y493, rfl, hIB499, hJB499, by489, zp494, zp495, zp496, zp497, zp498⟩ := r488
                obtain ⟨razp494, rbzp494, rczp494, rdzp494, rezp494, rfzp494⟩ := id zp494
                have f19 : (fZ B499 19 7).toInt = (fZ B450 19 7).toInt := by rw [fZ_cg (zp497 19 (by decide))]
                have frB499 := fr_ln q0 zp497
                refine g_aload_n rfl ?_
                refine g_dup rfl ?_
                refine g_gfi (rS_I hIB499 (by first | with_reducible assumption | omega)) sx_19 rfl (fun v500 ev500 lv500 uv500 => ?_)
                have iv500 : v500.toInt = (fZ B499 19 7).toInt := by rw [ev500, ← rS_o (by decide)]
                refine g_iconst (by decide) (fun v501 kv501 => ?_)
                refine g_iadd (by first | with_reducible assumption | omega) (fun v502 ev502 => ?_)
                refine g_pfi (rS_I hIB499 (by first | with_reducible assumption | omega)) sx_19 rfl (gz_any _) (fun H503 eH503 hIH503 => ?_)
                obtain ⟨B504, eB504⟩ : ∃ z, z = sF B499 19 7 v502 := ⟨_, rfl⟩
                obtain rfl : H503 = (rS B504 y489 y490 y491 y492 y493) := by rw [eH503, eB504]; exact rS_cF (by decide)
                have hIB504 : gI SX B504 := by rw [eB504]; exact gI_sF hIB499 sx_19 rfl (gz_any _)
                have hJB504 : JX B504 := JX_sF eB504 hJB499
                have tkB504 : tkH B504 T := tk_19 eB504 zp495
                have bkB504 := bk_19 eB504 zp496
                have frB504 := fr_19 eB504 frB499
                have wxB504 : wX B504 = wX B499 := wX_F eB504
                have jB504_19_7 : (fZ B504 19 7).toInt = v502.toInt := by rw [eB504, fZ_sF_eq hIB499 sx_19 rfl]
                refine g_goto ?_
                exact ihL451 y489 y490 y491 y492 y493 B504 (by first | with_reducible assumption | omega) hIB504 hJB504 frB504 tkB504 (by rw [it_st (n := (fZ B450 19 7).toInt.toNat) (by first | with_reducible assumption | omega)]; exact bkB504) (by rw [it_st (n := (fZ B450 19 7).toInt.toNat) (by first | with_reducible assumption | omega)]; exact zp494) (gs_st q4 (by first | with_reducible assumption | omega) (fun h => by unfold pStop at h; omega)) (by first | with_reducible assumption | omega) (by rw [xi_st (n := (fZ B450 19 7).toInt.toNat) (by first | with_reducible assumption | omega), wxB504, zp498, q6]) (by first | with_reducible assumption | omega)
              · refine g_aload_n rfl ?_
                refine g_iconst (by decide) (fun v505 kv505 => ?_)
                refine g_invvv (rS_I hIB450 (by first | with_reducible assumption | omega)) sx_19 rfl rfl rfl rfl (f_40 v505 (by first | with_reducible assumption | omega) B450 hIB450 hJB450 z445 z446 z447 z448 z449 (by first | with_reducible assumption | omega) q1 q3) (fun H506 r507 => ?_)
                obtain ⟨y508, y509, rfl, zp510⟩ := r507
                rw [kv505] at zp510
                obtain ⟨razp510, rbzp510, rczp510, rdzp510, rezp510, rfzp510⟩ := id zp510
                have nzp510 := pF_ne (T := T) (g := ((pIt a2.toInt T (fZ B450 19 7).toInt.toNat b)).2) (n := 1) (by first | with_reducible assumption | omega)
                refine g_nop ?_
                have sg : pSg a2.toInt T (pIt a2.toInt T (fZ B450 19 7).toInt.toNat b).2 = (pFail T 1 ((pIt a2.toInt T (fZ B450 19 7).toInt.toNat b)).2) := by unfold pSg; rw [if_pos (by first | with_reducible assumption | omega)]
                have zq := zp510
                rw [← sg] at zq
                refine g_aload_n rfl ?_
                refine g_invvv (rS_I hIB450 (by first | with_reducible assumption | omega)) sx_19 rfl rfl rfl rfl (h_41 B450 hIB450 hJB450 z445 z446 z447 y508 y509 (by first | with_reducible assumption | omega) q1 zq q2) (fun H511 r512 => ?_)
                obtain ⟨B523, y513, y514, y515, y516, y517, rfl, hIB523, hJB523, by513, zp518, zp519, zp520, zp521, zp522⟩ := r512
                obtain ⟨razp518, rbzp518, rczp518, rdzp518, rezp518, rfzp518⟩ := id zp518
                have f19 : (fZ B523 19 7).toInt = (fZ B450 19 7).toInt := by rw [fZ_cg (zp521 19 (by decide))]
                have frB523 := fr_ln q0 zp521
                refine g_aload_n rfl ?_
                refine g_dup rfl ?_
                refine g_gfi (rS_I hIB523 (by first | with_reducible assumption | omega)) sx_19 rfl (fun v524 ev524 lv524 uv524 => ?_)
                have iv524 : v524.toInt = (fZ B523 19 7).toInt := by rw [ev524, ← rS_o (by decide)]
                refine g_iconst (by decide) (fun v525 kv525 => ?_)
                refine g_iadd (by first | with_reducible assumption | omega) (fun v526 ev526 => ?_)
                refine g_pfi (rS_I hIB523 (by first | with_reducible assumption | omega)) sx_19 rfl (gz_any _) (fun H527 eH527 hIH527 => ?_)
                obtain ⟨B528, eB528⟩ : ∃ z, z = sF B523 19 7 v526 := ⟨_, rfl⟩
                obtain rfl : H527 = (rS B528 y513 y514 y515 y516 y517) := by rw [eH527, eB528]; exact rS_cF (by decide)
                have hIB528 : gI SX B528 := by rw [eB528]; exact gI_sF hIB523 sx_19 rfl (gz_any _)
                have hJB528 : JX B528 := JX_sF eB528 hJB523
                have tkB528 : tkH B528 T := tk_19 eB528 zp519
                have bkB528 := bk_19 eB528 zp520
                have frB528 := fr_19 eB528 frB523
                have wxB528 : wX B528 = wX B523 := wX_F eB528
                have jB528_19_7 : (fZ B528 19 7).toInt = v526.toInt := by rw [eB528, fZ_sF_eq hIB523 sx_19 rfl]
                refine g_goto ?_
                exact ihL451 y513 y514 y515 y516 y517 B528 (by first | with_reducible assumption | omega) hIB528 hJB528 frB528 tkB528 (by rw [it_st (n := (fZ B450 19 7).toInt.toNat) (by first | with_reducible assumption | omega)]; exact bkB528) (by rw [it_st (n := (fZ B450 19 7).toInt.toNat) (by first | with_reducible assumption | omega)]; exact zp518) (gs_st q4 (by first | with_reducible assumption | omega) (fun h => by unfold pStop at h; omega)) (by first | with_reducible assumption | omega) (by rw [xi_st (n := (fZ B450 19 7).toInt.toNat) (by first | with_reducible assumption | omega), wxB528, zp522, q6]) (by first | with_reducible assumption | omega)
  exact L451 _ y441 y442 y443 v431 v433 B437 (by first | with_reducible assumption | omega) hIB437 hJB437 frB437 tkB437 (by rw [it_0 (by first | with_reducible assumption | omega)]; exact bkB437) (by rw [it_0 (by first | with_reducible assumption | omega)]; exact rd_0 tkB437 (by first | with_reducible assumption | omega) (by first | with_reducible assumption | omega) (by first | with_reducible assumption | omega) zp444) (gs_0 (by first | with_reducible assumption | omega)) (by first | with_reducible assumption | omega) (by rw [xi_0 (by first | with_reducible assumption | omega), wxB437, wxc]) (Nat.lt_succ_self _)
