theorem kr_a {K V so va wo : Int} (h : kR K V so va wo) : (K = 4 ∧ so = 0 ∧ va = 0) ∨ (8 ≤ K ∧ K ≤ 17 ∧ so = 0 ∧ va = K - 7) ∨ (¬ (K = 4 ∨ (8 ≤ K ∧ K ≤ 17)) ∧ ¬ (so = 0 ∧ 0 ≤ va ∧ va ≤ 10)) := by
  unfold kR kwR nmR at h
  omega
def pMa (c : pB) (T : pT) (g : pG) : pG := if c.N = 60 then pFail T 2 g else g
theorem ma_ok {c : pB} {T : pT} {g : pG} (h : g.f = 0) : (c.N = 60 ∧ (pMa c T g).f ≠ 0) ∨ (c.N ≠ 60 ∧ (pMa c T g).f = 0) := by
  unfold pMa
  if q : c.N = 60 then
    rw [if_pos q]
    exact Or.inl ⟨q, (pF_ne (by decide)).1⟩
  else
    rw [if_neg q]
    exact Or.inr ⟨q, h⟩
theorem m1_eq {c : pB} {T : pT} {g : pG} (h : T.K g.t = 3) : pM1 c T g = pGn T (pMa c T g) := by
  unfold pM1 pMa
  if q : c.N = 60 then rw [if_pos q, if_pos q, tk_y (by rw [(pF_ne (by decide)).2]; omega)]
  else rw [if_neg q, if_neg q, tk_y (by omega)]
def pActW (T : pT) (g : pG) : pG := if g.f = 0 ∧ (T.K g.t = 4 ∨ (8 ≤ T.K g.t ∧ T.K g.t ≤ 17)) then g else pFail T 1 g
theorem ac_eq {T : pT} {g : pG} : pAct T g = pGn T (pActW T g) := by
  unfold pAct pActW
  if q : g.f = 0 ∧ (T.K g.t = 4 ∨ (8 ≤ T.K g.t ∧ T.K g.t ≤ 17)) then
    rw [if_pos q]
    if k : T.K g.t = 4 then rw [if_pos k, tk_y (by omega)]
    else rw [if_neg k, tk_y (by omega)]
  else
    rw [if_neg q]
    if k : T.K g.t = 4 then rw [if_pos k, tk_n (by omega)]
    else rw [if_neg k, tk_n (by omega)]
theorem av_eq {T : pT} {g : pG} {v : Int} (hf : g.f = 0) (h : (T.K g.t = 4 ∧ v = 0) ∨ (8 ≤ T.K g.t ∧ T.K g.t ≤ 17 ∧ v = T.K g.t - 7)) : v = pActV T g := by
  unfold pActV
  if k : T.K g.t = 4 then
    rw [if_pos k]
    omega
  else
    rw [if_neg k, tk_y (by omega), gn_f, if_neg (fun z => z hf)]
    omega
theorem m5_f {c : pB} {T : pT} {g : pG} (h : (pM4 c T g).f ≠ 0) : pM5 c T g = pM4 c T g := by
  unfold pM5
  rw [pT_no h, ite_self]
theorem m5_n {c : pB} {T : pT} {g : pG} (h : pActV T (pM2 c T g) ≠ 0) : pM5 c T g = pM4 c T g := by
  unfold pM5
  rw [if_neg h]
theorem m5_y {c : pB} {T : pT} {g : pG} (h : pActV T (pM2 c T g) = 0) : pM5 c T g = pTake T 5 7 (pM4 c T g) := by
  unfold pM5
  rw [if_pos h]
theorem sec_no {c : pB} {T : pT} {a : Int} {g : pG} (h : g.f ≠ 0) : pSec c T a g = g := by
  unfold pSec
  rw [pN_0 h, pPlc_no h, ite_self, ite_self]
theorem m6_f {c : pB} {T : pT} {g : pG} (h : (pM5 c T g).f ≠ 0) : pM6 c T g = pM5 c T g := sec_no h
theorem m6_1 {c : pB} {T : pT} {g : pG} (h : pActV T (pM2 c T g) = 1) : pM6 c T g = pNumb T 0 39 (pM5 c T g) := by
  unfold pM6 pSec
  rw [if_pos h]
theorem m6_p {c : pB} {T : pT} {g : pG} (h : pActV T (pM2 c T g) = 0 ∨ pActV T (pM2 c T g) = 5 ∨ pActV T (pM2 c T g) = 6 ∨ pActV T (pM2 c T g) = 8) : pM6 c T g = pPlc c.nm c.P T (-1) (pM5 c T g) := by
  unfold pM6 pSec
  rw [if_neg (by omega), if_pos h]
theorem m6_n {c : pB} {T : pT} {g : pG} (h : ¬ pActV T (pM2 c T g) = 1 ∧ ¬ (pActV T (pM2 c T g) = 0 ∨ pActV T (pM2 c T g) = 5 ∨ pActV T (pM2 c T g) = 6 ∨ pActV T (pM2 c T g) = 8)) : pM6 c T g = pM5 c T g := by
  unfold pM6 pSec
  rw [if_neg h.1, if_neg h.2]
theorem sv_1 {c : pB} {T : pT} {a : Int} {g : pG} (h : a = 1) : pSecV c T a g = T.V g.t := by
  unfold pSecV
  rw [if_pos h]
theorem sv_n {c : pB} {T : pT} {a : Int} {g : pG} (h : ¬ a = 1 ∧ ¬ (a = 0 ∨ a = 5 ∨ a = 6 ∨ a = 8)) : pSecV c T a g = -2 := by
  unfold pSecV
  rw [if_neg h.1, if_neg h.2]
theorem sv_p {c : pB} {T : pT} {a : Int} {g : pG} (h : a = 0 ∨ a = 5 ∨ a = 6 ∨ a = 8) : (pPlc c.nm c.P T (-1) g).f ≠ 0 ∨ pSecV c T a g = pPh c T g := by
  rcases rp_ok (c := c) (T := T) (g := g) with q | ⟨_, _, q⟩
  · exact Or.inl q
  · right
    unfold pSecV
    rw [if_neg (by omega), if_pos h]
    exact (pl_ph q).2.2.1
theorem kd_mk {c : pB} {T : pT} {g : pG} {d : Int} (h : (pActV T (pM2 c T g) = 0 ∧ d = T.K (pM4 c T g).t - 5) ∨ (pActV T (pM2 c T g) ≠ 0 ∧ d = -1)) : d = if pActV T (pM2 c T g) = 0 then pKn c T g else -1 := by
  unfold pKn
  split <;> omega
theorem nms_mk {H B1 B2 B3 B4 B5 B6 : mzH} {c : pB} {x0 x1 x2 x3 x4 x5 h w f s d v : Int32} {ho ac fi se ki : Int} (hI : gI SM H) (hI1 : gI SM B1) (hI2 : gI SM B2) (hI3 : gI SM B3) (hI4 : gI SM B4) (hI5 : gI SM B5) (hb : bkM H c) (e1 : B1 = sA H 3 x0.toInt.toNat h) (e2 : B2 = sA B1 3 x1.toInt.toNat w) (e3 : B3 = sA B2 3 x2.toInt.toNat f) (e4 : B4 = sA B3 3 x3.toInt.toNat s) (e5 : B5 = sA B4 3 x4.toInt.toNat d) (e6 : B6 = sA B5 3 x5.toInt.toNat v) (hx : x0.toInt = 69 + 5 * c.N ∧ 0 ≤ c.N ∧ c.N < 60) (hx1 : x1.toInt = x0.toInt + 1) (hx2 : x2.toInt = x0.toInt + 2) (hx3 : x3.toInt = x0.toInt + 3) (hx4 : x4.toInt = x0.toInt + 4) (hx5 : x5.toInt = 2) (hv : v.toInt = c.N + 1) (h1 : h.toInt = ho) (h2 : w.toInt = ac) (h3 : f.toInt = fi) (h4 : s.toInt = se) (h5 : d.toInt = if ac = 0 then ki else -1) : bkM B6 (bMs c ho ac fi se ki) := by
  obtain ⟨r, hr⟩ : ∃ r : Nat, r = 69 + 5 * c.N.toNat := ⟨_, rfl⟩
  have a : ∀ j, aZ B6 3 j = if j = 2 then v else if j = r + 4 then d else if j = r + 3 then s else if j = r + 2 then f else if j = r + 1 then w else if j = r then h else aZ H 3 j := fun j => by
    rw [e6, aZ_if hI5 sm_3 (by omega) (show x5.toInt.toNat = 2 by omega), e5, aZ_if hI4 sm_3 (by omega) (show x4.toInt.toNat = r + 4 by omega), e4, aZ_if hI3 sm_3 (by omega) (show x3.toInt.toNat = r + 3 by omega), e3, aZ_if hI2 sm_3 (by omega) (show x2.toInt.toNat = r + 2 by omega), e2, aZ_if hI1 sm_3 (by omega) (show x1.toInt.toNat = r + 1 by omega), e1, aZ_if hI sm_3 (by omega) (show x0.toInt.toNat = r by omega)]
  have no : ∀ j, j ≠ 2 → (j < r ∨ r + 4 < j) → aZ B6 3 j = aZ H 3 j := fun j j2 hj => by rw [a, if_neg j2, if_neg (by omega), if_neg (by omega), if_neg (by omega), if_neg (by omega), if_neg (by omega)]
  have hj : ((c.N.toNat : Nat) : Int) = c.N := by omega
  obtain ⟨g0, g1, g2, g3, g4, g5, g6, g7, g8⟩ := hb
  refine ⟨?_, ?_, ?_, ?_, ?_, ?_, fun p hp => ?_, fun k hk => ?_, g8⟩
  · rw [no 0 (by decide) (by omega)]; exact g0
  · rw [no 1 (by decide) (by omega)]; exact g1
  · rw [a, if_pos rfl]; exact hv
  · rw [no 3 (by decide) (by omega)]; exact g3
  · rw [no 4 (by decide) (by omega)]; exact g4
  · rw [e6, fZ_sA, e5, fZ_sA, e4, fZ_sA, e3, fZ_sA, e2, fZ_sA, e1, fZ_sA]; exact g5
  · rw [e6, aZ_sA_nc (by decide), e5, aZ_sA_nc (by decide), e4, aZ_sA_nc (by decide), e3, aZ_sA_nc (by decide), e2, aZ_sA_nc (by decide), e1, aZ_sA_nc (by decide)]; exact g6 p hp
  · have hk : (k : Int) < c.N + 1 := hk
    refine ⟨up_if hj (fun q => ?_) (fun q => ?_), up_if hj (fun q => ?_) (fun q => ?_), up_if hj (fun q => ?_) (fun q => ?_), up_if hj (fun q => ?_) (fun q => ?_), ?_⟩
    · rw [no _ (by omega) (by omega)]; exact (g7 k (by omega)).1
    · rw [a, if_neg (by omega), if_neg (by omega), if_neg (by omega), if_neg (by omega), if_neg (by omega), if_pos (by omega)]; exact h1
    · rw [no _ (by omega) (by omega)]; exact (g7 k (by omega)).2.1
    · rw [a, if_neg (by omega), if_neg (by omega), if_neg (by omega), if_neg (by omega), if_pos (by omega)]; exact h2
    · rw [no _ (by omega) (by omega)]; exact (g7 k (by omega)).2.2.1
    · rw [a, if_neg (by omega), if_neg (by omega), if_neg (by omega), if_pos (by omega)]; exact h3
    · rw [no _ (by omega) (by omega)]; exact (g7 k (by omega)).2.2.2.1
    · rw [a, if_neg (by omega), if_neg (by omega), if_pos (by omega)]; exact h4
    · show (aZ B6 3 (69 + 5 * k + 4)).toInt = if (if (k : Int) = c.N then ac else c.ac k) = 0 then (if (k : Int) = c.N then ki else c.ki k) else -1
      if q : (k : Int) = c.N then
        rw [if_pos q, if_pos q, a, if_neg (by omega), if_pos (by omega)]
        exact h5
      else
        rw [if_neg q, if_neg q, no _ (by omega) (by omega)]
        exact (g7 k (by omega)).2.2.2.2
set_option maxRecDepth 4000 in
set_option maxHeartbeats 4000000 in
/-- M.readMessage, exactly -/
theorem f_170 (H : mzH) (hI : gI SM H) (hJ : JN H) (x0 x1 x2 x3 x4 x5 x6 : Int32) (hx0 : 0 ≤ x0.toInt ∧ x0.toInt ≤ 900) (hx1 : 0 ≤ x1.toInt ∧ x1.toInt ≤ 900) (hx2 : 0 ≤ x2.toInt ∧ x2.toInt ≤ 4) {b : Nat → Int} {n : Nat} {T : pT} {g : pG} {c : pB} (hp0 : tkM H b n T) (hp1 : rdM b n T g x0 x1 x2 x3 x4 x5 x6) (hp2 : bkM H c) (hp3 : g.f = 0 ∧ T.K g.t = 3) : gCall 170 [.ref 0] (mS H x0 x1 x2 x3 x4 x5 x6) (gRv (fun H' => ∃ B : mzH, ∃ y0 y1 y2 y3 y4 y5 y6 : Int32, H' = mS B y0 y1 y2 y3 y4 y5 y6 ∧ gI SM B ∧ JN B ∧ (0 ≤ y0.toInt ∧ y0.toInt ≤ 900) ∧ (0 ≤ y1.toInt ∧ y1.toInt ≤ 900) ∧ (0 ≤ y2.toInt ∧ y2.toInt ≤ 4) ∧ rdM b n T (pM6 c T g) y0 y1 y2 y3 y4 y5 y6 ∧ tkM B b n T ∧ ((pM6 c T g).f ≠ 0 ∨ bkM B (bMg c T g)) ∧ frM H B)) := by
  obtain ⟨-, r1, -, r3, -, -⟩ := id hp1
  have w0 := hp0.2.2
  have w3 := hp2.1
  have w4 := JN_n30 hJ (v := aZ H 3 0) rfl
  have w5 := hp2.2.2.1
  have w6 := JN_n32 hJ (v := aZ H 3 2) rfl
  refine gG_call [(0, .ref 0)] ⟨rfl, trivial⟩ ?_
  show gG 8 zB_170 (mzBlk zB_170 0) [(0, .ref 0)] [] (mS H x0 x1 x2 x3 x4 x5 x6) 0 0 _
  have J795 : ∀ (v781 : Int32) (v782 : Int32) (v783 : Int32) (v784 : Int32) (v785 : Int32) (v786 : Int32) (v787 : Int32) (z788 : Int32) (z789 : Int32) (z790 : Int32) (z791 : Int32) (z792 : Int32) (z793 : Int32) (z794 : Int32), (69 ≤ v781.toInt ∧ v781.toInt ≤ 369) → (0 ≤ v783.toInt ∧ v783.toInt ≤ 1) → (-1 ≤ v787.toInt ∧ v787.toInt ≤ 2) → (0 ≤ z788.toInt ∧ z788.toInt ≤ 900) → (0 ≤ z789.toInt ∧ z789.toInt ≤ 900) → (0 ≤ z790.toInt ∧ z790.toInt ≤ 4) → rdM b n T (pM6 c T g) z788 z789 z790 z791 z792 z793 z794 → (v781.toInt = 69 + 5 * c.N ∧ 0 ≤ c.N ∧ c.N ≤ 60) → bx ((pM6 c T g).f ≠ 0 ∨ ((v782.toInt = T.V (pM1 c T g).t ∧ c.N ≠ 60 ∧ v784.toInt = pActV T (pM2 c T g) ∧ 0 ≤ v784.toInt ∧ v784.toInt ≤ 10 ∧ v785.toInt = T.V (pM3 c T g).t ∧ 0 ≤ v785.toInt ∧ v785.toInt ≤ 39 ∧ ((v784.toInt = 0 ∧ v787.toInt = T.K (pM4 c T g).t - 5 ∧ 0 ≤ v787.toInt ∧ v787.toInt ≤ 2) ∨ (v784.toInt ≠ 0 ∧ v787.toInt = -1))) ∧ v786.toInt = pSecV c T (pActV T (pM2 c T g)) (pM5 c T g) ∧ -2 ≤ v786.toInt ∧ v786.toInt ≤ 39 ∧ ((v784.toInt = 0 ∨ v784.toInt = 5 ∨ v784.toInt = 6 ∨ v784.toInt = 8) → (0 ≤ v786.toInt ∧ v786.toInt ≤ 7)) ∧ (v784.toInt = 1 → (0 ≤ v786.toInt ∧ v786.toInt ≤ 39)))) → gG 8 zB_170 (mzBlk zB_170 8) [(0, .ref 0), (1, .int v781), (2, .int v782), (3, .int v783), (4, .int v784), (5, .int v785), (6, .int v786), (7, .int v787)] [] (mS H z788 z789 z790 z791 z792 z793 z794) 0 0 (gRv (fun H' => ∃ B : mzH, ∃ y0 y1 y2 y3 y4 y5 y6 : Int32, H' = mS B y0 y1 y2 y3 y4 y5 y6 ∧ gI SM B ∧ JN B ∧ (0 ≤ y0.toInt ∧ y0.toInt ≤ 900) ∧ (0 ≤ y1.toInt ∧ y1.toInt ≤ 900) ∧ (0 ≤ y2.toInt ∧ y2.toInt ≤ 4) ∧ rdM b n T (pM6 c T g) y0 y1 y2 y3 y4 y5 y6 ∧ tkM B b n T ∧ ((pM6 c T g).f ≠ 0 ∨ bkM B (bMg c T g)) ∧ frM H B)) := by
    intro v781 v782 v783 v784 v785 v786 v787 z788 z789 z790 z791 z792 z793 z794 bv781 bv783 bv787 bz788 bz789 bz790 q0 q1 q2
    obtain ⟨-, rbq, -, rdq, -, -⟩ := id q0
    refine g_aload_n rfl ?_
    refine g_gfk (mS_I hI (by omega) (by omega) (by omega)) sm_0 rfl (mS_g13 hI) ?_
    refine g_if_eq (fun c796 => ?_) (fun c796 => ?_)
    · have o6 := (bx.op q2).resolve_left (by omega)
      refine g_aload_n rfl ?_
      refine g_gfr (mS_I hI (by omega) (by omega) (by omega)) sm_0 rfl ?_
      refine g_iload_n rfl ?_
      refine g_iload_n rfl ?_
      refine g_iastore (mS_I hI (by omega) (by omega) (by omega)) sm_3 (by omega) (gz_any _) (fun H797 eH797 hIH797 => ?_)
      obtain ⟨B798, eB798⟩ : ∃ z, z = sA H 3 v781.toInt.toNat v782 := ⟨_, rfl⟩
      obtain rfl : H797 = (mS B798 z788 z789 z790 z791 z792 z793 z794) := by rw [eH797, eB798]; exact mS_cA
      have hIB798 : gI SM B798 := by rw [eB798]; exact gI_sA hI sm_3 (gz_any _)
      have frB798 : frM H B798 := frM_A (frM_r) eB798 (by decide)
      have tkB798 : tkM B798 b n T := tkM_fr hp0 frB798
      refine g_aload_n rfl ?_
      refine g_gfr (mS_I hIB798 (by omega) (by omega) (by omega)) sm_0 rfl ?_
      refine g_iload_n rfl ?_
      refine g_iconst (by decide) (fun v799 kv799 => ?_)
      refine g_iadd (by omega) (fun v800 ev800 => ?_)
      refine g_iload rfl ?_
      refine g_iastore (mS_I hIB798 (by omega) (by omega) (by omega)) sm_3 (by omega) (gz_any _) (fun H801 eH801 hIH801 => ?_)
      obtain ⟨B802, eB802⟩ : ∃ z, z = sA B798 3 v800.toInt.toNat v784 := ⟨_, rfl⟩
      obtain rfl : H801 = (mS B802 z788 z789 z790 z791 z792 z793 z794) := by rw [eH801, eB802]; exact mS_cA
      have hIB802 : gI SM B802 := by rw [eB802]; exact gI_sA hIB798 sm_3 (gz_any _)
      have frB802 : frM H B802 := frM_A frB798 eB802 (by decide)
      have tkB802 : tkM B802 b n T := tkM_fr hp0 frB802
      refine g_aload_n rfl ?_
      refine g_gfr (mS_I hIB802 (by omega) (by omega) (by omega)) sm_0 rfl ?_
      refine g_iload_n rfl ?_
      refine g_iconst (by decide) (fun v803 kv803 => ?_)
      refine g_iadd (by omega) (fun v804 ev804 => ?_)
      refine g_iload rfl ?_
      refine g_iastore (mS_I hIB802 (by omega) (by omega) (by omega)) sm_3 (by omega) (gz_any _) (fun H805 eH805 hIH805 => ?_)
      obtain ⟨B806, eB806⟩ : ∃ z, z = sA B802 3 v804.toInt.toNat v785 := ⟨_, rfl⟩
      obtain rfl : H805 = (mS B806 z788 z789 z790 z791 z792 z793 z794) := by rw [eH805, eB806]; exact mS_cA
      have hIB806 : gI SM B806 := by rw [eB806]; exact gI_sA hIB802 sm_3 (gz_any _)
      have frB806 : frM H B806 := frM_A frB802 eB806 (by decide)
      have tkB806 : tkM B806 b n T := tkM_fr hp0 frB806
      refine g_aload_n rfl ?_
      refine g_gfr (mS_I hIB806 (by omega) (by omega) (by omega)) sm_0 rfl ?_
      refine g_iload_n rfl ?_
      refine g_iconst (by decide) (fun v807 kv807 => ?_)
      refine g_iadd (by omega) (fun v808 ev808 => ?_)
      refine g_iload rfl ?_
      refine g_iastore (mS_I hIB806 (by omega) (by omega) (by omega)) sm_3 (by omega) (gz_any _) (fun H809 eH809 hIH809 => ?_)
      obtain ⟨B810, eB810⟩ : ∃ z, z = sA B806 3 v808.toInt.toNat v786 := ⟨_, rfl⟩
      obtain rfl : H809 = (mS B810 z788 z789 z790 z791 z792 z793 z794) := by rw [eH809, eB810]; exact mS_cA
      have hIB810 : gI SM B810 := by rw [eB810]; exact gI_sA hIB806 sm_3 (gz_any _)
      have frB810 : frM H B810 := frM_A frB806 eB810 (by decide)
      have tkB810 : tkM B810 b n T := tkM_fr hp0 frB810
      refine g_aload_n rfl ?_
      refine g_gfr (mS_I hIB810 (by omega) (by omega) (by omega)) sm_0 rfl ?_
      refine g_iload_n rfl ?_
      refine g_iconst (by decide) (fun v811 kv811 => ?_)
      refine g_iadd (by omega) (fun v812 ev812 => ?_)
      refine g_iload rfl ?_
      refine g_iastore (mS_I hIB810 (by omega) (by omega) (by omega)) sm_3 (by omega) (gz_any _) (fun H813 eH813 hIH813 => ?_)
      obtain ⟨B814, eB814⟩ : ∃ z, z = sA B810 3 v812.toInt.toNat v787 := ⟨_, rfl⟩
      obtain rfl : H813 = (mS B814 z788 z789 z790 z791 z792 z793 z794) := by rw [eH813, eB814]; exact mS_cA
      have hIB814 : gI SM B814 := by rw [eB814]; exact gI_sA hIB810 sm_3 (gz_any _)
      have m32 : aZ B814 3 2 = aZ H 3 2 := JM_row2 (by omega) (by omega) (by omega) (by omega) (by omega) eB798 eB802 eB806 eB810 eB814
      have n32 : (aZ B814 3 2).toInt = c.N := by rw [m32]; exact hp2.2.2.1
      have hJB814 : JN B814 := JN_row hJ hI hIB798 hIB802 hIB806 hIB810 (by omega) (by omega) (by omega) (by omega) (by omega) (by omega) (by omega) (by omega) (by omega) eB798 eB802 eB806 eB810 eB814
      have frB814 : frM H B814 := frM_A frB810 eB814 (by decide)
      have tkB814 : tkM B814 b n T := tkM_fr hp0 frB814
      refine g_aload_n rfl ?_
      refine g_gfr (mS_I hIB814 (by omega) (by omega) (by omega)) sm_0 rfl ?_
      refine g_iconst (by decide) (fun v815 kv815 => ?_)
      refine g_dup2 rfl ?_
      refine g_iaload (mS_I hIB814 (by omega) (by omega) (by omega)) sm_3 rfl (by omega) (fun v816 ev816 lv816 uv816 => ?_)
      have dv816 : v816 = aZ B814 3 v815.toInt.toNat := ev816.trans mS_a
      have tv816 : v816.toInt = (aZ B814 3 v815.toInt.toNat).toInt := by rw [dv816]
      rw [show v815.toInt.toNat = 2 from by omega] at tv816
      have jv816 := JN_n32 hJB814 (v := aZ B814 3 2) rfl
      refine g_iconst (by decide) (fun v817 kv817 => ?_)
      refine g_iadd (by omega) (fun v818 ev818 => ?_)
      refine g_iastore (mS_I hIB814 (by omega) (by omega) (by omega)) sm_3 (by omega) (gz_any _) (fun H819 eH819 hIH819 => ?_)
      obtain ⟨B820, eB820⟩ : ∃ z, z = sA B814 3 v815.toInt.toNat v818 := ⟨_, rfl⟩
      obtain rfl : H819 = (mS B820 z788 z789 z790 z791 z792 z793 z794) := by rw [eH819, eB820]; exact mS_cA
      have hIB820 : gI SM B820 := by rw [eB820]; exact gI_sA hIB814 sm_3 (gz_any _)
      have hJB820 : JN B820 := JN_s3 hIB814 hJB814 (by omega) (fun _ => by omega) (fun _ => by omega) eB820
      have frB820 : frM H B820 := frM_A frB814 eB820 (by decide)
      have tkB820 : tkM B820 b n T := tkM_fr hp0 frB820
      exact g_ret ⟨rfl, B820, z788, z789, z790, z791, z792, z793, z794, rfl, hIB820, hJB820, (by omega), (by omega), (by omega), q0, tkB820, (Or.inr (by unfold bMg; rw [if_pos (by omega)]; exact nms_mk hI hIB798 hIB802 hIB806 hIB810 hIB814 hp2 eB798 eB802 eB806 eB810 eB814 eB820 (by omega) (by omega) (by omega) (by omega) (by omega) (by omega) (by omega) (by omega) (by omega) (by omega) (by omega) (kd_mk (by omega)))), frB820⟩
    · exact g_ret ⟨rfl, H, z788, z789, z790, z791, z792, z793, z794, rfl, hI, hJ, (by omega), (by omega), (by omega), q0, hp0, (Or.inl (by omega)), (frM_r)⟩
  have J835 : ∀ (v821 : Int32) (v822 : Int32) (v823 : Int32) (v824 : Int32) (v825 : Int32) (v826 : Int32) (v827 : Int32) (z828 : Int32) (z829 : Int32) (z830 : Int32) (z831 : Int32) (z832 : Int32) (z833 : Int32) (z834 : Int32), (69 ≤ v821.toInt ∧ v821.toInt ≤ 369) → (0 ≤ v823.toInt ∧ v823.toInt ≤ 1) → (-2 ≤ v826.toInt ∧ v826.toInt ≤ -2) → (-1 ≤ v827.toInt ∧ v827.toInt ≤ 2) → (0 ≤ z828.toInt ∧ z828.toInt ≤ 900) → (0 ≤ z829.toInt ∧ z829.toInt ≤ 900) → (0 ≤ z830.toInt ∧ z830.toInt ≤ 4) → rdM b n T (pM5 c T g) z828 z829 z830 z831 z832 z833 z834 → (v821.toInt = 69 + 5 * c.N ∧ 0 ≤ c.N ∧ c.N ≤ 60) → bx ((pM5 c T g).f ≠ 0 ∨ (v822.toInt = T.V (pM1 c T g).t ∧ c.N ≠ 60 ∧ v824.toInt = pActV T (pM2 c T g) ∧ 0 ≤ v824.toInt ∧ v824.toInt ≤ 10 ∧ v825.toInt = T.V (pM3 c T g).t ∧ 0 ≤ v825.toInt ∧ v825.toInt ≤ 39 ∧ ((v824.toInt = 0 ∧ v827.toInt = T.K (pM4 c T g).t - 5 ∧ 0 ≤ v827.toInt ∧ v827.toInt ≤ 2) ∨ (v824.toInt ≠ 0 ∧ v827.toInt = -1)))) → gG 8 zB_170 (mzBlk zB_170 5) [(0, .ref 0), (1, .int v821), (2, .int v822), (3, .int v823), (4, .int v824), (5, .int v825), (6, .int v826), (7, .int v827)] [] (mS H z828 z829 z830 z831 z832 z833 z834) 0 0 (gRv (fun H' => ∃ B : mzH, ∃ y0 y1 y2 y3 y4 y5 y6 : Int32, H' = mS B y0 y1 y2 y3 y4 y5 y6 ∧ gI SM B ∧ JN B ∧ (0 ≤ y0.toInt ∧ y0.toInt ≤ 900) ∧ (0 ≤ y1.toInt ∧ y1.toInt ≤ 900) ∧ (0 ≤ y2.toInt ∧ y2.toInt ≤ 4) ∧ rdM b n T (pM6 c T g) y0 y1 y2 y3 y4 y5 y6 ∧ tkM B b n T ∧ ((pM6 c T g).f ≠ 0 ∨ bkM B (bMg c T g)) ∧ frM H B)) := by
    intro v821 v822 v823 v824 v825 v826 v827 z828 z829 z830 z831 z832 z833 z834 bv821 bv823 bv826 bv827 bz828 bz829 bz830 q0 q1 q2
    obtain ⟨-, rbq, -, rdq, -, -⟩ := id q0
    refine g_aload_n rfl ?_
    refine g_gfk (mS_I hI (by omega) (by omega) (by omega)) sm_0 rfl (mS_g13 hI) ?_
    refine g_if_ne (fun c836 => ?_) (fun c836 => ?_)
    · refine g_aload_n rfl ?_
      refine g_gfk (mS_I hI (by omega) (by omega) (by omega)) sm_0 rfl (mS_g13 hI) ?_
      refine g_if_ne (fun c837 => ?_) (fun c837 => ?_)
      · exact J795 v821 v822 v823 v824 v825 v826 v827 z828 z829 z830 z831 z832 z833 z834 (by omega) (by omega) (by omega) (by omega) (by omega) (by omega) (by rw [m6_f (by omega)]; exact q0) (by omega) (bx.mk (Or.inl (by rw [m6_f (by omega)]; omega)))
      · refine g_iload rfl ?_
        refine g_if_eq (fun c838 => ?_) (fun c838 => ?_)
        · exfalso; omega
        · refine g_iload rfl ?_
          refine g_iconst (by decide) (fun v839 kv839 => ?_)
          refine g_if2_eq (fun c840 => ?_) (fun c840 => ?_)
          · exfalso; omega
          · refine g_iload rfl ?_
            refine g_bipush (by decide) (fun v841 kv841 => ?_)
            refine g_if2_eq (fun c842 => ?_) (fun c842 => ?_)
            · exfalso; omega
            · refine g_iload rfl ?_
              refine g_bipush (by decide) (fun v843 kv843 => ?_)
              refine g_if2_ne (fun c844 => ?_) (fun c844 => ?_)
              · exact J795 v821 v822 v823 v824 v825 v826 v827 z828 z829 z830 z831 z832 z833 z834 (by omega) (by omega) (by omega) (by omega) (by omega) (by omega) (by exfalso; omega) (by omega) (by exfalso; omega)
              · refine g_nop ?_
                exfalso; omega
    · refine g_iload rfl ?_
      refine g_iconst (by decide) (fun v845 kv845 => ?_)
      refine g_if2_ne (fun c846 => ?_) (fun c846 => ?_)
      · refine g_aload_n rfl ?_
        refine g_gfk (mS_I hI (by omega) (by omega) (by omega)) sm_0 rfl (mS_g13 hI) ?_
        refine g_if_ne (fun c847 => ?_) (fun c847 => ?_)
        · exfalso; omega
        · refine g_iload rfl ?_
          refine g_if_eq (fun c848 => ?_) (fun c848 => ?_)
          · refine g_aload_n rfl ?_
            refine g_invvi (mS_I hI (by omega) (by omega) (by omega)) sm_0 rfl rfl rfl rfl (f_165 H hI hJ z828 z829 z830 z831 z832 z833 z834 (by omega) (by omega) (by omega) hp0 q0 hp2) (fun v851 H849 r850 => ?_)
            obtain ⟨y852, y853, y854, y855, y856, y857, y858, rfl, bv851, by852, by853, by854, zp859, zp860⟩ := r850
            obtain ⟨-, rbzp859, -, rdzp859, -, -⟩ := id zp859
            have nzp859 := bx.mk (rp_ok (c := c) (T := T) (g := (pM5 c T g)))
            refine g_istore (l' := [(0, .ref 0), (1, .int v821), (2, .int v822), (3, .int v823), (4, .int v824), (5, .int v825), (6, .int v851), (7, .int v827)]) rfl rfl ?_
            refine g_nop ?_
            exact J795 v821 v822 v823 v824 v825 v851 v827 y852 y853 y854 y855 y856 y857 y858 (by omega) (by omega) (by omega) (by omega) (by omega) (by omega) (by have o5 := bx.op q2; rw [m6_p (by omega)]; exact zp859) (by omega) (bx.mk (by have o5 := bx.op q2; have oN := bx.op nzp859; have os := sv_p (c := c) (T := T) (g := pM5 c T g) (a := pActV T (pM2 c T g)) (by omega); rw [m6_p (by omega)]; omega))
          · refine g_iload rfl ?_
            refine g_iconst (by decide) (fun v861 kv861 => ?_)
            refine g_if2_eq (fun c862 => ?_) (fun c862 => ?_)
            · refine g_aload_n rfl ?_
              refine g_invvi (mS_I hI (by omega) (by omega) (by omega)) sm_0 rfl rfl rfl rfl (f_165 H hI hJ z828 z829 z830 z831 z832 z833 z834 (by omega) (by omega) (by omega) hp0 q0 hp2) (fun v865 H863 r864 => ?_)
              obtain ⟨y866, y867, y868, y869, y870, y871, y872, rfl, bv865, by866, by867, by868, zp873, zp874⟩ := r864
              obtain ⟨-, rbzp873, -, rdzp873, -, -⟩ := id zp873
              have nzp873 := bx.mk (rp_ok (c := c) (T := T) (g := (pM5 c T g)))
              refine g_istore (l' := [(0, .ref 0), (1, .int v821), (2, .int v822), (3, .int v823), (4, .int v824), (5, .int v825), (6, .int v865), (7, .int v827)]) rfl rfl ?_
              refine g_nop ?_
              exact J795 v821 v822 v823 v824 v825 v865 v827 y866 y867 y868 y869 y870 y871 y872 (by omega) (by omega) (by omega) (by omega) (by omega) (by omega) (by have o5 := bx.op q2; rw [m6_p (by omega)]; exact zp873) (by omega) (bx.mk (by have o5 := bx.op q2; have oN := bx.op nzp873; have os := sv_p (c := c) (T := T) (g := pM5 c T g) (a := pActV T (pM2 c T g)) (by omega); rw [m6_p (by omega)]; omega))
            · refine g_iload rfl ?_
              refine g_bipush (by decide) (fun v875 kv875 => ?_)
              refine g_if2_eq (fun c876 => ?_) (fun c876 => ?_)
              · refine g_aload_n rfl ?_
                refine g_invvi (mS_I hI (by omega) (by omega) (by omega)) sm_0 rfl rfl rfl rfl (f_165 H hI hJ z828 z829 z830 z831 z832 z833 z834 (by omega) (by omega) (by omega) hp0 q0 hp2) (fun v879 H877 r878 => ?_)
                obtain ⟨y880, y881, y882, y883, y884, y885, y886, rfl, bv879, by880, by881, by882, zp887, zp888⟩ := r878
                obtain ⟨-, rbzp887, -, rdzp887, -, -⟩ := id zp887
                have nzp887 := bx.mk (rp_ok (c := c) (T := T) (g := (pM5 c T g)))
                refine g_istore (l' := [(0, .ref 0), (1, .int v821), (2, .int v822), (3, .int v823), (4, .int v824), (5, .int v825), (6, .int v879), (7, .int v827)]) rfl rfl ?_
                refine g_nop ?_
                exact J795 v821 v822 v823 v824 v825 v879 v827 y880 y881 y882 y883 y884 y885 y886 (by omega) (by omega) (by omega) (by omega) (by omega) (by omega) (by have o5 := bx.op q2; rw [m6_p (by omega)]; exact zp887) (by omega) (bx.mk (by have o5 := bx.op q2; have oN := bx.op nzp887; have os := sv_p (c := c) (T := T) (g := pM5 c T g) (a := pActV T (pM2 c T g)) (by omega); rw [m6_p (by omega)]; omega))
              · refine g_iload rfl ?_
                refine g_bipush (by decide) (fun v889 kv889 => ?_)
                refine g_if2_ne (fun c890 => ?_) (fun c890 => ?_)
                · exact J795 v821 v822 v823 v824 v825 v826 v827 z828 z829 z830 z831 z832 z833 z834 (by omega) (by omega) (by omega) (by omega) (by omega) (by omega) (by have o5 := bx.op q2; rw [m6_n (by omega)]; exact q0) (by omega) (bx.mk (by have o5 := bx.op q2; rw [m6_n (by omega), sv_n (by omega)]; omega))
                · refine g_nop ?_
                  refine g_aload_n rfl ?_
                  refine g_invvi (mS_I hI (by omega) (by omega) (by omega)) sm_0 rfl rfl rfl rfl (f_165 H hI hJ z828 z829 z830 z831 z832 z833 z834 (by omega) (by omega) (by omega) hp0 q0 hp2) (fun v893 H891 r892 => ?_)
                  obtain ⟨y894, y895, y896, y897, y898, y899, y900, rfl, bv893, by894, by895, by896, zp901, zp902⟩ := r892
                  obtain ⟨-, rbzp901, -, rdzp901, -, -⟩ := id zp901
                  have nzp901 := bx.mk (rp_ok (c := c) (T := T) (g := (pM5 c T g)))
                  refine g_istore (l' := [(0, .ref 0), (1, .int v821), (2, .int v822), (3, .int v823), (4, .int v824), (5, .int v825), (6, .int v893), (7, .int v827)]) rfl rfl ?_
                  refine g_nop ?_
                  exact J795 v821 v822 v823 v824 v825 v893 v827 y894 y895 y896 y897 y898 y899 y900 (by omega) (by omega) (by omega) (by omega) (by omega) (by omega) (by have o5 := bx.op q2; rw [m6_p (by omega)]; exact zp901) (by omega) (bx.mk (by have o5 := bx.op q2; have oN := bx.op nzp901; have os := sv_p (c := c) (T := T) (g := pM5 c T g) (a := pActV T (pM2 c T g)) (by omega); rw [m6_p (by omega)]; omega))
      · refine g_aload_n rfl ?_
        refine g_iconst (by decide) (fun v903 kv903 => ?_)
        refine g_bipush (by decide) (fun v904 kv904 => ?_)
        refine g_invvi (mS_I hI (by omega) (by omega) (by omega)) sm_0 rfl rfl rfl rfl (f_163 v903 (by omega) v904 (by omega) H hI hJ z828 z829 z830 z831 z832 z833 z834 (by omega) (by omega) (by omega) hp0 q0) (fun v907 H905 r906 => ?_)
        obtain ⟨y908, y909, y910, y911, y912, y913, y914, rfl, by908, by909, by910, zp915, zp916⟩ := r906
        rw [kv903] at zp915
        rw [kv903] at zp916
        rw [kv904] at zp915
        rw [kv904] at zp916
        obtain ⟨-, rbzp915, -, rdzp915, -, -⟩ := id zp915
        have nzp915 := bx.mk (pN_ok (T := T) (lo := 0) (hi := 39) (g := (pM5 c T g)))
        refine g_istore (l' := [(0, .ref 0), (1, .int v821), (2, .int v822), (3, .int v823), (4, .int v824), (5, .int v825), (6, .int v907), (7, .int v827)]) rfl rfl ?_
        refine g_goto ?_
        exact J795 v821 v822 v823 v824 v825 v907 v827 y908 y909 y910 y911 y912 y913 y914 (by omega) (by omega) (by omega) (by omega) (by omega) (by omega) (by have o5 := bx.op q2; rw [m6_1 (by omega)]; exact zp915) (by omega) (bx.mk (by have o5 := bx.op q2; have oN := bx.op nzp915; rw [m6_1 (by omega), sv_1 (by omega)]; omega))
  have J927 : ∀ (v917 : Int32) (v918 : Int32) (v919 : Int32) (z920 : Int32) (z921 : Int32) (z922 : Int32) (z923 : Int32) (z924 : Int32) (z925 : Int32) (z926 : Int32), (69 ≤ v917.toInt ∧ v917.toInt ≤ 369) → (0 ≤ v919.toInt ∧ v919.toInt ≤ 1) → (0 ≤ z920.toInt ∧ z920.toInt ≤ 900) → (0 ≤ z921.toInt ∧ z921.toInt ≤ 900) → (0 ≤ z922.toInt ∧ z922.toInt ≤ 4) → rdM b n T (pActW T (pM2 c T g)) z920 z921 z922 z923 z924 z925 z926 → (v917.toInt = 69 + 5 * c.N ∧ 0 ≤ c.N ∧ c.N ≤ 60) → bx ((pM2 c T g).f ≠ 0 ∨ (v918.toInt = T.V (pM1 c T g).t ∧ c.N ≠ 60)) → bx ((pActW T (pM2 c T g)).f ≠ 0 ∨ ((pM2 c T g).f = 0 ∧ z923.toInt = pActV T (pM2 c T g) ∧ 0 ≤ z923.toInt ∧ z923.toInt ≤ 10)) → gG 8 zB_170 (mzBlk zB_170 4) [(0, .ref 0), (1, .int v917), (2, .int v918), (3, .int v919)] [] (mS H z920 z921 z922 z923 z924 z925 z926) 0 0 (gRv (fun H' => ∃ B : mzH, ∃ y0 y1 y2 y3 y4 y5 y6 : Int32, H' = mS B y0 y1 y2 y3 y4 y5 y6 ∧ gI SM B ∧ JN B ∧ (0 ≤ y0.toInt ∧ y0.toInt ≤ 900) ∧ (0 ≤ y1.toInt ∧ y1.toInt ≤ 900) ∧ (0 ≤ y2.toInt ∧ y2.toInt ≤ 4) ∧ rdM b n T (pM6 c T g) y0 y1 y2 y3 y4 y5 y6 ∧ tkM B b n T ∧ ((pM6 c T g).f ≠ 0 ∨ bkM B (bMg c T g)) ∧ frM H B)) := by
    intro v917 v918 v919 z920 z921 z922 z923 z924 z925 z926 bv917 bv919 bz920 bz921 bz922 q0 q1 q2 q3
    obtain ⟨-, rbq, -, rdq, -, -⟩ := id q0
    refine g_aload_n rfl ?_
    refine g_gfk (mS_I hI (by omega) (by omega) (by omega)) sm_0 rfl (mS_g11 hI) ?_
    refine g_istore (l' := [(0, .ref 0), (1, .int v917), (2, .int v918), (3, .int v919), (4, .int z923)]) rfl rfl ?_
    refine g_aload_n rfl ?_
    refine g_invvv (mS_I hI (by omega) (by omega) (by omega)) sm_0 rfl rfl rfl rfl (f_162 H hI hJ z920 z921 z922 z923 z924 z925 z926 (by omega) (by omega) (by omega) hp0 q0) (fun H928 r929 => ?_)
    obtain ⟨y930, y931, y932, y933, y934, rfl, by930, by931, by932, zp935⟩ := r929
    obtain ⟨-, rbzp935, -, rdzp935, -, -⟩ := id zp935
    have nzp935 := gn_f (T := T) (g := (pActW T (pM2 c T g)))
    have al936 : pM3 c T g = (pGn T (pActW T (pM2 c T g))) := by unfold pM3; exact ac_eq
    have zp937 := zp935
    rw [← al936] at zp937
    rw [← al936] at nzp935
    obtain ⟨-, rbzp937, -, rdzp937, -, -⟩ := id zp937
    refine g_aload_n rfl ?_
    refine g_iconst (by decide) (fun v938 kv938 => ?_)
    refine g_bipush (by decide) (fun v939 kv939 => ?_)
    refine g_invvi (mS_I hI (by omega) (by omega) (by omega)) sm_0 rfl rfl rfl rfl (f_163 v938 (by omega) v939 (by omega) H hI hJ y930 y931 y932 y933 y934 z925 z926 (by omega) (by omega) (by omega) hp0 zp937) (fun v942 H940 r941 => ?_)
    obtain ⟨y943, y944, y945, y946, y947, y948, y949, rfl, by943, by944, by945, zp950, zp951⟩ := r941
    rw [kv938] at zp950
    rw [kv938] at zp951
    rw [kv939] at zp950
    rw [kv939] at zp951
    obtain ⟨-, rbzp950, -, rdzp950, -, -⟩ := id zp950
    have nzp950 := bx.mk (pN_ok (T := T) (lo := 0) (hi := 39) (g := (pM3 c T g)))
    have al952 : pM4 c T g = (pNumb T 0 39 (pM3 c T g)) := by rfl
    have zp953 := zp950
    rw [← al952] at zp953
    rw [← al952] at nzp950
    rw [← al952] at zp951
    obtain ⟨-, rbzp953, -, rdzp953, -, -⟩ := id zp953
    refine g_istore (l' := [(0, .ref 0), (1, .int v917), (2, .int v918), (3, .int v919), (4, .int z923), (5, .int v942)]) rfl rfl ?_
    refine g_bipush (by decide) (fun v954 kv954 => ?_)
    refine g_istore (l' := [(0, .ref 0), (1, .int v917), (2, .int v918), (3, .int v919), (4, .int z923), (5, .int v942), (6, .int v954)]) rfl rfl ?_
    refine g_iconst (by decide) (fun v955 kv955 => ?_)
    refine g_istore (l' := [(0, .ref 0), (1, .int v917), (2, .int v918), (3, .int v919), (4, .int z923), (5, .int v942), (6, .int v954), (7, .int v955)]) rfl rfl ?_
    refine g_aload_n rfl ?_
    refine g_gfk (mS_I hI (by omega) (by omega) (by omega)) sm_0 rfl (mS_g13 hI) ?_
    refine g_if_ne (fun c956 => ?_) (fun c956 => ?_)
    · exact J835 v917 v918 v919 z923 v942 v954 v955 y943 y944 y945 y946 y947 y948 y949 (by omega) (by omega) (by omega) (by omega) (by omega) (by omega) (by omega) (by rw [m5_f (by omega)]; exact zp953) (by omega) (bx.mk (Or.inl (by rw [m5_f (by omega)]; omega)))
    · refine g_iload rfl ?_
      refine g_if_ne (fun c957 => ?_) (fun c957 => ?_)
      · exact J835 v917 v918 v919 z923 v942 v954 v955 y943 y944 y945 y946 y947 y948 y949 (by omega) (by omega) (by omega) (by omega) (by omega) (by omega) (by omega) (by have o4 := bx.op nzp950; have o3 := bx.op q3; have o2 := bx.op q2; rw [m5_n (by omega)]; exact zp953) (by omega) (bx.mk (by have o4 := bx.op nzp950; have o3 := bx.op q3; have o2 := bx.op q2; rw [m5_n (by omega)]; omega))
      · refine g_aload_n rfl ?_
        refine g_invvi (mS_I hI (by omega) (by omega) (by omega)) sm_0 rfl rfl rfl rfl (f_169 H hI hJ y943 y944 y945 y946 y947 y948 y949 (by omega) (by omega) (by omega) hp0 zp953) (fun v960 H958 r959 => ?_)
        obtain ⟨y961, y962, y963, y964, y965, y966, y967, rfl, bv960, by961, by962, by963, zp968, zp969⟩ := r959
        obtain ⟨-, rbzp968, -, rdzp968, -, -⟩ := id zp968
        have nzp968 := bx.mk (pT_ok (T := T) (lo := 5) (hi := 7) (g := (pM4 c T g)))
        refine g_istore (l' := [(0, .ref 0), (1, .int v917), (2, .int v918), (3, .int v919), (4, .int z923), (5, .int v942), (6, .int v954), (7, .int v960)]) rfl rfl ?_
        refine g_nop ?_
        exact J835 v917 v918 v919 z923 v942 v954 v960 y961 y962 y963 y964 y965 y966 y967 (by omega) (by omega) (by omega) (by omega) (by omega) (by omega) (by omega) (by have o4 := bx.op nzp950; have o3 := bx.op q3; have o2 := bx.op q2; rw [m5_y (by omega)]; exact zp968) (by omega) (bx.mk (by have o4 := bx.op nzp950; have o3 := bx.op q3; have o2 := bx.op q2; have o5 := bx.op nzp968; rw [m5_y (by omega)]; omega))
  have J977 : ∀ (z970 : Int32) (z971 : Int32) (z972 : Int32) (z973 : Int32) (z974 : Int32) (z975 : Int32) (z976 : Int32), (0 ≤ z970.toInt ∧ z970.toInt ≤ 900) → (0 ≤ z971.toInt ∧ z971.toInt ≤ 900) → (0 ≤ z972.toInt ∧ z972.toInt ≤ 4) → rdM b n T (pMa c T g) z970 z971 z972 z973 z974 z975 z976 → gG 8 zB_170 (mzBlk zB_170 1) [(0, .ref 0)] [] (mS H z970 z971 z972 z973 z974 z975 z976) 0 0 (gRv (fun H' => ∃ B : mzH, ∃ y0 y1 y2 y3 y4 y5 y6 : Int32, H' = mS B y0 y1 y2 y3 y4 y5 y6 ∧ gI SM B ∧ JN B ∧ (0 ≤ y0.toInt ∧ y0.toInt ≤ 900) ∧ (0 ≤ y1.toInt ∧ y1.toInt ≤ 900) ∧ (0 ≤ y2.toInt ∧ y2.toInt ≤ 4) ∧ rdM b n T (pM6 c T g) y0 y1 y2 y3 y4 y5 y6 ∧ tkM B b n T ∧ ((pM6 c T g).f ≠ 0 ∨ bkM B (bMg c T g)) ∧ frM H B)) := by
    intro z970 z971 z972 z973 z974 z975 z976 bz970 bz971 bz972 q0
    obtain ⟨-, rbq, -, rdq, -, -⟩ := id q0
    have ma := bx.mk (ma_ok (c := c) (T := T) (g := g) hp3.1)
    refine g_aload_n rfl ?_
    refine g_invvv (mS_I hI (by omega) (by omega) (by omega)) sm_0 rfl rfl rfl rfl (f_162 H hI hJ z970 z971 z972 z973 z974 z975 z976 (by omega) (by omega) (by omega) hp0 q0) (fun H978 r979 => ?_)
    obtain ⟨y980, y981, y982, y983, y984, rfl, by980, by981, by982, zp985⟩ := r979
    obtain ⟨-, rbzp985, -, rdzp985, -, -⟩ := id zp985
    have nzp985 := gn_f (T := T) (g := (pMa c T g))
    have al986 : pM1 c T g = (pGn T (pMa c T g)) := by exact m1_eq hp3.2
    have zp987 := zp985
    rw [← al986] at zp987
    rw [← al986] at nzp985
    obtain ⟨-, rbzp987, -, rdzp987, -, -⟩ := id zp987
    refine g_bipush (by decide) (fun v988 kv988 => ?_)
    refine g_iconst (by decide) (fun v989 kv989 => ?_)
    refine g_aload_n rfl ?_
    refine g_gfr (mS_I hI (by omega) (by omega) (by omega)) sm_0 rfl ?_
    refine g_iconst (by decide) (fun v990 kv990 => ?_)
    refine g_iaload (mS_I hI (by omega) (by omega) (by omega)) sm_3 rfl (by omega) (fun v991 ev991 lv991 uv991 => ?_)
    have dv991 : v991 = aZ H 3 v990.toInt.toNat := ev991.trans mS_a
    have tv991 : v991.toInt = (aZ H 3 v990.toInt.toNat).toInt := by rw [dv991]
    rw [show v990.toInt.toNat = 2 from by omega] at tv991
    have jv991 := JN_n32 hJ (v := aZ H 3 2) rfl
    refine g_imulk' (n := 5) kv989 (by omega) (fun v992 ev992 => ?_)
    refine g_iadd (by omega) (fun v993 ev993 => ?_)
    refine g_istore_n (l' := [(0, .ref 0), (1, .int v993)]) rfl rfl ?_
    refine g_aload_n rfl ?_
    refine g_iconst (by decide) (fun v994 kv994 => ?_)
    refine g_sipush (by decide) (fun v995 kv995 => ?_)
    refine g_invvi (mS_I hI (by omega) (by omega) (by omega)) sm_0 rfl rfl rfl rfl (f_163 v994 (by omega) v995 (by omega) H hI hJ y980 y981 y982 y983 y984 z975 z976 (by omega) (by omega) (by omega) hp0 zp987) (fun v998 H996 r997 => ?_)
    obtain ⟨y999, y1000, y1001, y1002, y1003, y1004, y1005, rfl, by999, by1000, by1001, zp1006, zp1007⟩ := r997
    rw [kv994] at zp1006
    rw [kv994] at zp1007
    rw [kv995] at zp1006
    rw [kv995] at zp1007
    obtain ⟨-, rbzp1006, -, rdzp1006, -, -⟩ := id zp1006
    have nzp1006 := bx.mk (pN_ok (T := T) (lo := 0) (hi := 999) (g := (pM1 c T g)))
    have al1008 : pM2 c T g = (pNumb T 0 999 (pM1 c T g)) := by rfl
    have zp1009 := zp1006
    rw [← al1008] at zp1009
    rw [← al1008] at nzp1006
    rw [← al1008] at zp1007
    obtain ⟨-, rbzp1009, -, rdzp1009, -, -⟩ := id zp1009
    have kazp1009 := kr_a rbzp1009
    refine g_istore_n (l' := [(0, .ref 0), (1, .int v993), (2, .int v998)]) rfl rfl ?_
    refine g_aload_n rfl ?_
    refine g_gfk (mS_I hI (by omega) (by omega) (by omega)) sm_0 rfl (mS_g13 hI) ?_
    refine g_if_ne (fun c1010 => ?_) (fun c1010 => ?_)
    · refine g_iconst (by decide) (fun v1011 kv1011 => ?_)
      refine g_nop ?_
      refine g_istore_n (l' := [(0, .ref 0), (1, .int v993), (2, .int v998), (3, .int v1011)]) rfl rfl ?_
      refine g_iload_n rfl ?_
      refine g_if_ne (fun c1012 => ?_) (fun c1012 => ?_)
      · exfalso; omega
      · refine g_aload_n rfl ?_
        refine g_iconst (by decide) (fun v1013 kv1013 => ?_)
        refine g_invvv (mS_I hI (by omega) (by omega) (by omega)) sm_0 rfl rfl rfl rfl (f_161 v1013 (by omega) H hI hJ y999 y1000 y1001 y1002 y1003 y1004 y1005 (by omega) (by omega) (by omega) hp0 zp1009) (fun H1014 r1015 => ?_)
        obtain ⟨y1016, y1017, rfl, zp1018⟩ := r1015
        rw [kv1013] at zp1018
        obtain ⟨-, rbzp1018, -, rdzp1018, -, -⟩ := id zp1018
        have nzp1018 := pF_ne (T := T) (g := (pM2 c T g)) (n := 1) (by omega)
        refine g_nop ?_
        exact J927 v993 v998 v1011 y999 y1000 y1001 y1002 y1003 y1016 y1017 (by omega) (by omega) (by omega) (by omega) (by omega) (by unfold pActW; rw [if_neg (by omega)]; exact zp1018) (by omega) (bx.mk (by have o1 := bx.op nzp1006; have o2 := bx.op ma; omega)) (bx.mk (Or.inl (by unfold pActW; rw [if_neg (by omega)]; omega)))
    · refine g_aload_n rfl ?_
      refine g_gfk (mS_I hI (by omega) (by omega) (by omega)) sm_0 rfl (mS_g10 hI) ?_
      refine g_if_ne (fun c1019 => ?_) (fun c1019 => ?_)
      · refine g_iconst (by decide) (fun v1020 kv1020 => ?_)
        refine g_nop ?_
        refine g_istore_n (l' := [(0, .ref 0), (1, .int v993), (2, .int v998), (3, .int v1020)]) rfl rfl ?_
        refine g_iload_n rfl ?_
        refine g_if_ne (fun c1021 => ?_) (fun c1021 => ?_)
        · exfalso; omega
        · refine g_aload_n rfl ?_
          refine g_iconst (by decide) (fun v1022 kv1022 => ?_)
          refine g_invvv (mS_I hI (by omega) (by omega) (by omega)) sm_0 rfl rfl rfl rfl (f_161 v1022 (by omega) H hI hJ y999 y1000 y1001 y1002 y1003 y1004 y1005 (by omega) (by omega) (by omega) hp0 zp1009) (fun H1023 r1024 => ?_)
          obtain ⟨y1025, y1026, rfl, zp1027⟩ := r1024
          rw [kv1022] at zp1027
          obtain ⟨-, rbzp1027, -, rdzp1027, -, -⟩ := id zp1027
          have nzp1027 := pF_ne (T := T) (g := (pM2 c T g)) (n := 1) (by omega)
          refine g_nop ?_
          exact J927 v993 v998 v1020 y999 y1000 y1001 y1002 y1003 y1025 y1026 (by omega) (by omega) (by omega) (by omega) (by omega) (by unfold pActW; rw [if_neg (by omega)]; exact zp1027) (by omega) (bx.mk (by have o1 := bx.op nzp1006; have o2 := bx.op ma; omega)) (bx.mk (Or.inl (by unfold pActW; rw [if_neg (by omega)]; omega)))
      · refine g_aload_n rfl ?_
        refine g_gfk (mS_I hI (by omega) (by omega) (by omega)) sm_0 rfl (mS_g11 hI) ?_
        refine g_if_lt (fun c1028 => ?_) (fun c1028 => ?_)
        · refine g_iconst (by decide) (fun v1029 kv1029 => ?_)
          refine g_nop ?_
          refine g_istore_n (l' := [(0, .ref 0), (1, .int v993), (2, .int v998), (3, .int v1029)]) rfl rfl ?_
          refine g_iload_n rfl ?_
          refine g_if_ne (fun c1030 => ?_) (fun c1030 => ?_)
          · exfalso; omega
          · refine g_aload_n rfl ?_
            refine g_iconst (by decide) (fun v1031 kv1031 => ?_)
            refine g_invvv (mS_I hI (by omega) (by omega) (by omega)) sm_0 rfl rfl rfl rfl (f_161 v1031 (by omega) H hI hJ y999 y1000 y1001 y1002 y1003 y1004 y1005 (by omega) (by omega) (by omega) hp0 zp1009) (fun H1032 r1033 => ?_)
            obtain ⟨y1034, y1035, rfl, zp1036⟩ := r1033
            rw [kv1031] at zp1036
            obtain ⟨-, rbzp1036, -, rdzp1036, -, -⟩ := id zp1036
            have nzp1036 := pF_ne (T := T) (g := (pM2 c T g)) (n := 1) (by omega)
            refine g_nop ?_
            exact J927 v993 v998 v1029 y999 y1000 y1001 y1002 y1003 y1034 y1035 (by omega) (by omega) (by omega) (by omega) (by omega) (by unfold pActW; rw [if_neg (by omega)]; exact zp1036) (by omega) (bx.mk (by have o1 := bx.op nzp1006; have o2 := bx.op ma; omega)) (bx.mk (Or.inl (by unfold pActW; rw [if_neg (by omega)]; omega)))
        · refine g_aload_n rfl ?_
          refine g_gfk (mS_I hI (by omega) (by omega) (by omega)) sm_0 rfl (mS_g11 hI) ?_
          refine g_bipush (by decide) (fun v1037 kv1037 => ?_)
          refine g_if2_gt (fun c1038 => ?_) (fun c1038 => ?_)
          · refine g_iconst (by decide) (fun v1039 kv1039 => ?_)
            refine g_nop ?_
            refine g_istore_n (l' := [(0, .ref 0), (1, .int v993), (2, .int v998), (3, .int v1039)]) rfl rfl ?_
            refine g_iload_n rfl ?_
            refine g_if_ne (fun c1040 => ?_) (fun c1040 => ?_)
            · exfalso; omega
            · refine g_aload_n rfl ?_
              refine g_iconst (by decide) (fun v1041 kv1041 => ?_)
              refine g_invvv (mS_I hI (by omega) (by omega) (by omega)) sm_0 rfl rfl rfl rfl (f_161 v1041 (by omega) H hI hJ y999 y1000 y1001 y1002 y1003 y1004 y1005 (by omega) (by omega) (by omega) hp0 zp1009) (fun H1042 r1043 => ?_)
              obtain ⟨y1044, y1045, rfl, zp1046⟩ := r1043
              rw [kv1041] at zp1046
              obtain ⟨-, rbzp1046, -, rdzp1046, -, -⟩ := id zp1046
              have nzp1046 := pF_ne (T := T) (g := (pM2 c T g)) (n := 1) (by omega)
              refine g_nop ?_
              exact J927 v993 v998 v1039 y999 y1000 y1001 y1002 y1003 y1044 y1045 (by omega) (by omega) (by omega) (by omega) (by omega) (by unfold pActW; rw [if_neg (by omega)]; exact zp1046) (by omega) (bx.mk (by have o1 := bx.op nzp1006; have o2 := bx.op ma; omega)) (bx.mk (Or.inl (by unfold pActW; rw [if_neg (by omega)]; omega)))
          · refine g_iconst (by decide) (fun v1047 kv1047 => ?_)
            refine g_goto ?_
            refine g_istore_n (l' := [(0, .ref 0), (1, .int v993), (2, .int v998), (3, .int v1047)]) rfl rfl ?_
            refine g_iload_n rfl ?_
            refine g_if_ne (fun c1048 => ?_) (fun c1048 => ?_)
            · exact J927 v993 v998 v1047 y999 y1000 y1001 y1002 y1003 y1004 y1005 (by omega) (by omega) (by omega) (by omega) (by omega) (by unfold pActW; rw [if_pos (by omega)]; exact zp1009) (by omega) (bx.mk (by have o1 := bx.op nzp1006; have o2 := bx.op ma; omega)) (bx.mk (Or.inr ⟨by omega, av_eq (by omega) (by omega), by omega, by omega⟩))
            · exfalso; omega
  refine g_aload_n rfl ?_
  refine g_gfr (mS_I hI (by omega) (by omega) (by omega)) sm_0 rfl ?_
  refine g_iconst (by decide) (fun v1049 kv1049 => ?_)
  refine g_iaload (mS_I hI (by omega) (by omega) (by omega)) sm_3 rfl (by omega) (fun v1050 ev1050 lv1050 uv1050 => ?_)
  have dv1050 : v1050 = aZ H 3 v1049.toInt.toNat := ev1050.trans mS_a
  have tv1050 : v1050.toInt = (aZ H 3 v1049.toInt.toNat).toInt := by rw [dv1050]
  rw [show v1049.toInt.toNat = 2 from by omega] at tv1050
  have jv1050 := JN_n32 hJ (v := aZ H 3 2) rfl
  refine g_bipush (by decide) (fun v1051 kv1051 => ?_)
  refine g_if2_ne (fun c1052 => ?_) (fun c1052 => ?_)
  · exact J977 x0 x1 x2 x3 x4 x5 x6 (by omega) (by omega) (by omega) (by unfold pMa; rw [if_neg (by omega)]; exact hp1)
  · refine g_aload_n rfl ?_
    refine g_iconst (by decide) (fun v1053 kv1053 => ?_)
    refine g_invvv (mS_I hI (by omega) (by omega) (by omega)) sm_0 rfl rfl rfl rfl (f_161 v1053 (by omega) H hI hJ x0 x1 x2 x3 x4 x5 x6 (by omega) (by omega) (by omega) hp0 hp1) (fun H1054 r1055 => ?_)
    obtain ⟨y1056, y1057, rfl, zp1058⟩ := r1055
    rw [kv1053] at zp1058
    obtain ⟨-, rbzp1058, -, rdzp1058, -, -⟩ := id zp1058
    have nzp1058 := pF_ne (T := T) (g := g) (n := 2) (by omega)
    refine g_nop ?_
    exact J977 x0 x1 x2 x3 x4 y1056 y1057 (by omega) (by omega) (by omega) (by unfold pMa; rw [if_pos (by omega)]; exact zp1058)
