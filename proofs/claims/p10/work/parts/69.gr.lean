def bMs (b : pB) (h a f s k : Int) : pB := pBm b.P b.R (b.N + 1) b.U b.C b.F b.nm (fun q => if (q : Int) = b.N then h else b.hr q) (fun q => if (q : Int) = b.N then a else b.ac q) (fun q => if (q : Int) = b.N then f else b.fi q) (fun q => if (q : Int) = b.N then s else b.se q) (fun q => if (q : Int) = b.N then k else b.ki q)
theorem frD_6 {H B1 B2 B3 B4 B5 B6 : mzH} {i1 i2 i3 i4 i5 : Nat} {a1 a2 a3 a4 a5 u : Int32} (e1 : B1 = sA H 14 i1 a1) (e2 : B2 = sA B1 15 i2 a2) (e3 : B3 = sA B2 16 i3 a3) (e4 : B4 = sA B3 17 i4 a4) (e5 : B5 = sA B4 18 i5 a5) (e6 : B6 = sF B5 11 9 u) : frD H B6 := fun c h => by rw [e6, c_sF (by omega), e5, c_sA (by omega), e4, c_sA (by omega), e3, c_sA (by omega), e2, c_sA (by omega), e1, c_sA (by omega)]
theorem up_if {x y v : Int} {q : Nat} {n : Int} {j : Nat} (hj : (j : Int) = n) (h : ¬ q = j → x = y) (hv : q = j → x = v) : x = if (q : Int) = n then v else y := by
  split
  · exact hv (by omega)
  · exact h (by omega)
theorem ams_mk {H B1 B2 B3 B4 B5 B6 : mzH} {b : pB} {i1 i2 i3 i4 i5 a1 a2 a3 a4 a5 u : Int32} (hI : gI SX H) (hI1 : gI SX B1) (hI2 : gI SX B2) (hI3 : gI SX B3) (hI4 : gI SX B4) (hI5 : gI SX B5) (hb : bkX H 11 b) (e1 : B1 = sA H 14 i1.toInt.toNat a1) (e2 : B2 = sA B1 15 i2.toInt.toNat a2) (e3 : B3 = sA B2 16 i3.toInt.toNat a3) (e4 : B4 = sA B3 17 i4.toInt.toNat a4) (e5 : B5 = sA B4 18 i5.toInt.toNat a5) (e6 : B6 = sF B5 11 9 u) (h1 : i1.toInt = b.N ∧ 0 ≤ b.N ∧ b.N < 60) (h2 : i2.toInt = b.N) (h3 : i3.toInt = b.N) (h4 : i4.toInt = b.N) (h5 : i5.toInt = b.N) (hu : u.toInt = b.N + 1) : bkX B6 11 (bMs b a1.toInt a2.toInt a3.toInt a4.toInt a5.toInt) := by
  obtain ⟨g1, g2, g3, g4, g5, g6, g7, g9, g10⟩ := hb
  have ff : ∀ f, f ≠ 9 → fZ B6 11 f = fZ H 11 f := fun f hf => by rw [e6, fZ_sF_ne (Ne.symm hf), e5, fZ_sA, e4, fZ_sA, e3, fZ_sA, e2, fZ_sA, e1, fZ_sA]
  refine ⟨?_, ?_, ?_, ?_, ?_, ?_, fun p hp => ?_, fun k hk => ?_, g10⟩
  · rw [ff 7 (by decide)]; exact g1
  · rw [ff 8 (by decide)]; exact g2
  · rw [e6, fZ_sF_eq hI5 sx_11 rfl]; exact hu
  · rw [ff 10 (by decide)]; exact g4
  · rw [ff 11 (by decide)]; exact g5
  · rw [ff 12 (by decide)]; exact g6
  · rw [e6, aZ_sF, e5, aZ_sA_nc (by decide), e4, aZ_sA_nc (by decide), e3, aZ_sA_nc (by decide), e2, aZ_sA_nc (by decide), e1, aZ_sA_nc (by decide)]
    exact g7 p hp
  · have hk : (k : Int) < b.N + 1 := hk
    have o1 : aZ B6 14 k = if k = b.N.toNat then a1 else aZ H 14 k := by
      rw [e6, aZ_sF, e5, aZ_sA_nc (by decide), e4, aZ_sA_nc (by decide), e3, aZ_sA_nc (by decide), e2, aZ_sA_nc (by decide), e1, aZ_if hI sx_14 (by omega) (show _ = b.N.toNat by omega)]
    have o2 : aZ B6 15 k = if k = b.N.toNat then a2 else aZ H 15 k := by
      rw [e6, aZ_sF, e5, aZ_sA_nc (by decide), e4, aZ_sA_nc (by decide), e3, aZ_sA_nc (by decide), e2, aZ_if hI1 sx_15 (by omega) (show _ = b.N.toNat by omega), e1, aZ_sA_nc (by decide)]
    have o3 : aZ B6 16 k = if k = b.N.toNat then a3 else aZ H 16 k := by
      rw [e6, aZ_sF, e5, aZ_sA_nc (by decide), e4, aZ_sA_nc (by decide), e3, aZ_if hI2 sx_16 (by omega) (show _ = b.N.toNat by omega), e2, aZ_sA_nc (by decide), e1, aZ_sA_nc (by decide)]
    have o4 : aZ B6 17 k = if k = b.N.toNat then a4 else aZ H 17 k := by
      rw [e6, aZ_sF, e5, aZ_sA_nc (by decide), e4, aZ_if hI3 sx_17 (by omega) (show _ = b.N.toNat by omega), e3, aZ_sA_nc (by decide), e2, aZ_sA_nc (by decide), e1, aZ_sA_nc (by decide)]
    have o5 : aZ B6 18 k = if k = b.N.toNat then a5 else aZ H 18 k := by
      rw [e6, aZ_sF, e5, aZ_if hI4 sx_18 (by omega) (show _ = b.N.toNat by omega), e4, aZ_sA_nc (by decide), e3, aZ_sA_nc (by decide), e2, aZ_sA_nc (by decide), e1, aZ_sA_nc (by decide)]
    have hj : ((b.N.toNat : Nat) : Int) = b.N := by omega
    refine ⟨up_if hj (fun h => ?_) (fun h => ?_), up_if hj (fun h => ?_) (fun h => ?_), up_if hj (fun h => ?_) (fun h => ?_), up_if hj (fun h => ?_) (fun h => ?_), up_if hj (fun h => ?_) (fun h => ?_)⟩
    · rw [show 11 + 3 = 14 from rfl, o1, if_neg h]; exact (g9 k (by omega)).1
    · rw [show 11 + 3 = 14 from rfl, o1, if_pos h]
    · rw [show 11 + 4 = 15 from rfl, o2, if_neg h]; exact (g9 k (by omega)).2.1
    · rw [show 11 + 4 = 15 from rfl, o2, if_pos h]
    · rw [show 11 + 5 = 16 from rfl, o3, if_neg h]; exact (g9 k (by omega)).2.2.1
    · rw [show 11 + 5 = 16 from rfl, o3, if_pos h]
    · rw [show 11 + 6 = 17 from rfl, o4, if_neg h]; exact (g9 k (by omega)).2.2.2.1
    · rw [show 11 + 6 = 17 from rfl, o4, if_pos h]
    · rw [show 11 + 7 = 18 from rfl, o5, if_neg h]; exact (g9 k (by omega)).2.2.2.2
    · rw [show 11 + 7 = 18 from rfl, o5, if_pos h]
theorem tk_fr {H B : mzH} {T : pT} (h : tkH H T) (f : frD H B) : tkH B T := by
  refine ⟨fun t ht => ?_, ?_⟩
  · rw [aZ_cg (f 21 (by decide)), aZ_cg (f 22 (by decide)), aZ_cg (f 23 (by decide))]
    exact h.1 t ht
  · rw [fZ_cg (f 20 (by decide))]
    exact h.2
def pSec (b : pB) (T : pT) (a : Int) (g : pG) : pG := if a = 1 then pNumb T 0 39 g else if a = 0 ∨ a = 5 ∨ a = 6 ∨ a = 8 then pPlc b.nm b.P T (-1) g else g
def pSecV (b : pB) (T : pT) (a : Int) (g : pG) : Int := if a = 1 then T.V g.t else if a = 0 ∨ a = 5 ∨ a = 6 ∨ a = 8 then pPl b.nm b.P T g else -2
/-! place -/
def pRdP1 (b : pB) (T : pT) (g : pG) : pG := if b.P = 8 then pTake T 0 0 (pFail T 2 g) else pTake T 0 0 g
def pRdP (b : pB) (T : pT) (g : pG) : pG := if T.K (pRdP1 b T g).t = 18 ∧ pNm b.nm (T.V (pRdP1 b T g).t) b.P.toNat ≠ -2 then pTake T 18 18 (pFail T 3 (pRdP1 b T g)) else pTake T 18 18 (pRdP1 b T g)
def bRdP (b : pB) (T : pT) (g : pG) : pB := if (pRdP b T g).f = 0 then bPl b (T.V (pRdP1 b T g).t) else b
/-! road -/
def pRdR1 (b : pB) (T : pT) (g : pG) : pG := if b.R = 12 then pTake T 1 1 (pFail T 2 g) else pTake T 1 1 g
def pRdR2 (b : pB) (T : pT) (g : pG) : pG := pPlc b.nm b.P T (-1) (pRdR1 b T g)
def pRdR3 (b : pB) (T : pT) (g : pG) : pG := pPlc b.nm b.P T (pPl b.nm b.P T (pRdR1 b T g)) (pRdR2 b T g)
def pRdR (b : pB) (T : pT) (g : pG) : pG := pNumb T 1 99 (pRdR3 b T g)
def bRdR (b : pB) (T : pT) (g : pG) : pB := if (pRdR b T g).f = 0 then bRd b else b
set_option maxRecDepth 4000 in
set_option maxHeartbeats 4000000 in
/-- X1.addMessage, exactly -/
theorem f_16 (a1 : Int32) (a2 : Int32) (a3 : Int32) (ha3 : 0 ≤ a3.toInt ∧ a3.toInt ≤ 39) (a4 : Int32) (ha4 : -2 ≤ a4.toInt ∧ a4.toInt ≤ 39) (a5 : Int32) (H : mzH) (hI : gI SX H) (hJ : JX H) (x0 x1 x2 x3 x4 : Int32) (hx0 : 0 ≤ x0.toInt ∧ x0.toInt ≤ 900) {b : pB} (hp0 : bkX H 11 b) (hp1 : b.N < 60) (hp2 : (a2.toInt = 1 → 0 ≤ a4.toInt)) : gCall 16 [.ref 11, .int a1, .int a2, .int a3, .int a4, .int a5] (rS H x0 x1 x2 x3 x4) (gRv (fun H' => ∃ B : mzH, H' = rS B x0 x1 x2 x3 x4 ∧ gI SX B ∧ JX B ∧ frD H B ∧ bkX B 11 (bMs b a1.toInt a2.toInt a3.toInt a4.toInt a5.toInt))) := by
  have w1 := hp0.2.2.1
  refine gG_call [(0, .ref 11), (1, .int a1), (2, .int a2), (3, .int a3), (4, .int a4), (5, .int a5)] ⟨rfl, rfl, rfl, rfl, rfl, rfl, trivial⟩ ?_
  show gG 6 zB_16 (mzBlk zB_16 0) [(0, .ref 11), (1, .int a1), (2, .int a2), (3, .int a3), (4, .int a4), (5, .int a5)] [] (rS H x0 x1 x2 x3 x4) 0 0 _
  refine g_aload_n rfl ?_
  refine g_gfi (rS_I hI (by omega)) sx_11 rfl (fun v93 ev93 lv93 uv93 => ?_)
  have iv93 : v93.toInt = (fZ H 11 9).toInt := by rw [ev93, ← rS_o (by decide)]
  refine g_bipush (by decide) (fun v94 kv94 => ?_)
  refine g_if2_ge (fun c95 => ?_) (fun c95 => ?_)
  · exact g_ret ⟨rfl, H, rfl, hI, hJ, (by exfalso; omega), (by exfalso; omega)⟩
  · refine g_aload_n rfl ?_
    refine g_gfr (rS_I hI (by omega)) sx_11 rfl ?_
    refine g_aload_n rfl ?_
    refine g_gfi (rS_I hI (by omega)) sx_11 rfl (fun v96 ev96 lv96 uv96 => ?_)
    have iv96 : v96.toInt = (fZ H 11 9).toInt := by rw [ev96, ← rS_o (by decide)]
    refine g_iload_n rfl ?_
    refine g_iastore (rS_I hI (by omega)) sx_14 (by omega) (gz_any _) (fun H97 eH97 hIH97 => ?_)
    obtain ⟨B98, eB98⟩ : ∃ z, z = sA H 14 v96.toInt.toNat a1 := ⟨_, rfl⟩
    obtain rfl : H97 = (rS B98 x0 x1 x2 x3 x4) := by rw [eH97, eB98]; exact rS_cA
    have hIB98 : gI SX B98 := by rw [eB98]; exact gI_sA hI sx_14 (gz_any _)
    have jB98_11_9 : (fZ B98 11 9).toInt = (fZ H 11 9).toInt := by rw [eB98, fZ_sA]
    refine g_aload_n rfl ?_
    refine g_gfr (rS_I hIB98 (by omega)) sx_11 rfl ?_
    refine g_aload_n rfl ?_
    refine g_gfi (rS_I hIB98 (by omega)) sx_11 rfl (fun v99 ev99 lv99 uv99 => ?_)
    have iv99 : v99.toInt = (fZ B98 11 9).toInt := by rw [ev99, ← rS_o (by decide)]
    refine g_iload_n rfl ?_
    refine g_iastore (rS_I hIB98 (by omega)) sx_15 (by omega) (gz_any _) (fun H100 eH100 hIH100 => ?_)
    obtain ⟨B101, eB101⟩ : ∃ z, z = sA B98 15 v99.toInt.toNat a2 := ⟨_, rfl⟩
    obtain rfl : H100 = (rS B101 x0 x1 x2 x3 x4) := by rw [eH100, eB101]; exact rS_cA
    have hIB101 : gI SX B101 := by rw [eB101]; exact gI_sA hIB98 sx_15 (gz_any _)
    have jB101_11_9 : (fZ B101 11 9).toInt = (fZ B98 11 9).toInt := by rw [eB101, fZ_sA]
    refine g_aload_n rfl ?_
    refine g_gfr (rS_I hIB101 (by omega)) sx_11 rfl ?_
    refine g_aload_n rfl ?_
    refine g_gfi (rS_I hIB101 (by omega)) sx_11 rfl (fun v102 ev102 lv102 uv102 => ?_)
    have iv102 : v102.toInt = (fZ B101 11 9).toInt := by rw [ev102, ← rS_o (by decide)]
    refine g_iload_n rfl ?_
    refine g_iastore (rS_I hIB101 (by omega)) sx_16 (by omega) (by omega) (fun H103 eH103 hIH103 => ?_)
    obtain ⟨B104, eB104⟩ : ∃ z, z = sA B101 16 v102.toInt.toNat a3 := ⟨_, rfl⟩
    obtain rfl : H103 = (rS B104 x0 x1 x2 x3 x4) := by rw [eH103, eB104]; exact rS_cA
    have hIB104 : gI SX B104 := by rw [eB104]; exact gI_sA hIB101 sx_16 (by omega)
    have jB104_11_9 : (fZ B104 11 9).toInt = (fZ B101 11 9).toInt := by rw [eB104, fZ_sA]
    refine g_aload_n rfl ?_
    refine g_gfr (rS_I hIB104 (by omega)) sx_11 rfl ?_
    refine g_aload_n rfl ?_
    refine g_gfi (rS_I hIB104 (by omega)) sx_11 rfl (fun v105 ev105 lv105 uv105 => ?_)
    have iv105 : v105.toInt = (fZ B104 11 9).toInt := by rw [ev105, ← rS_o (by decide)]
    refine g_iload rfl ?_
    refine g_iastore (rS_I hIB104 (by omega)) sx_17 (by omega) (by omega) (fun H106 eH106 hIH106 => ?_)
    obtain ⟨B107, eB107⟩ : ∃ z, z = sA B104 17 v105.toInt.toNat a4 := ⟨_, rfl⟩
    obtain rfl : H106 = (rS B107 x0 x1 x2 x3 x4) := by rw [eH106, eB107]; exact rS_cA
    have hIB107 : gI SX B107 := by rw [eB107]; exact gI_sA hIB104 sx_17 (by omega)
    have jB107_11_9 : (fZ B107 11 9).toInt = (fZ B104 11 9).toInt := by rw [eB107, fZ_sA]
    refine g_aload_n rfl ?_
    refine g_gfr (rS_I hIB107 (by omega)) sx_11 rfl ?_
    refine g_aload_n rfl ?_
    refine g_gfi (rS_I hIB107 (by omega)) sx_11 rfl (fun v108 ev108 lv108 uv108 => ?_)
    have iv108 : v108.toInt = (fZ B107 11 9).toInt := by rw [ev108, ← rS_o (by decide)]
    refine g_iload rfl ?_
    refine g_iastore (rS_I hIB107 (by omega)) sx_18 (by omega) (gz_any _) (fun H109 eH109 hIH109 => ?_)
    obtain ⟨B110, eB110⟩ : ∃ z, z = sA B107 18 v108.toInt.toNat a5 := ⟨_, rfl⟩
    obtain rfl : H109 = (rS B110 x0 x1 x2 x3 x4) := by rw [eH109, eB110]; exact rS_cA
    have hIB110 : gI SX B110 := by rw [eB110]; exact gI_sA hIB107 sx_18 (gz_any _)
    have jB110_11_9 : (fZ B110 11 9).toInt = (fZ B107 11 9).toInt := by rw [eB110, fZ_sA]
    refine g_aload_n rfl ?_
    refine g_dup rfl ?_
    refine g_gfi (rS_I hIB110 (by omega)) sx_11 rfl (fun v111 ev111 lv111 uv111 => ?_)
    have iv111 : v111.toInt = (fZ B110 11 9).toInt := by rw [ev111, ← rS_o (by decide)]
    refine g_iconst (by decide) (fun v112 kv112 => ?_)
    refine g_iadd (by omega) (fun v113 ev113 => ?_)
    refine g_pfi (rS_I hIB110 (by omega)) sx_11 rfl (by omega) (fun H114 eH114 hIH114 => ?_)
    obtain ⟨B115, eB115⟩ : ∃ z, z = sF B110 11 9 v113 := ⟨_, rfl⟩
    obtain rfl : H114 = (rS B115 x0 x1 x2 x3 x4) := by rw [eH114, eB115]; exact rS_cF (by decide)
    have hIB115 : gI SX B115 := by rw [eB115]; exact gI_sF hIB110 sx_11 rfl (by omega)
    have jB115_11_9 : (fZ B115 11 9).toInt = v113.toInt := by rw [eB115, fZ_sF_eq hIB110 sx_11 rfl]
    refine g_nop ?_
    have hJlate : JX B115 := JX_add (H1 := B98) (H2 := B101) (H3 := B104) (H4 := B107) (H5 := B110) (b := 11) (i := v96.toInt.toNat) (Or.inr rfl) hp2 (by omega) hJ hIB98 hIB104 eB98 (by rw [eB101, show v99.toInt.toNat = v96.toInt.toNat by omega]) (by rw [eB104, show v102.toInt.toNat = v96.toInt.toNat by omega]) (by rw [eB107, show v105.toInt.toNat = v96.toInt.toNat by omega]) (by rw [eB110, show v108.toInt.toNat = v96.toInt.toNat by omega]) eB115
    exact g_ret ⟨rfl, B115, rfl, hIB115, hJlate, (frD_6 eB98 eB101 eB104 eB107 eB110 eB115), (ams_mk hI hIB98 hIB101 hIB104 hIB107 hIB110 hp0 eB98 eB101 eB104 eB107 eB110 eB115 (by omega) (by omega) (by omega) (by omega) (by omega) (by omega))⟩
set_option maxRecDepth 4000 in
set_option maxHeartbeats 4000000 in
/-- X4.takeSecond, exactly -/
theorem f_47 (a1 : Int32) (ha1 : 0 ≤ a1.toInt ∧ a1.toInt ≤ 10) (H : mzH) (hI : gI SX H) (hJ : JX H) (x0 x1 x2 x3 x4 : Int32) (hx0 : 0 ≤ x0.toInt ∧ x0.toInt ≤ 900) {T : pT} {g : pG} {b : pB} (hp0 : tkH H T) (hp1 : rdX T g x0 x1 x2 x3 x4) (hp2 : bkX H 11 b) : gCall 47 [.ref 19, .int a1] (rS H x0 x1 x2 x3 x4) (gRi (fun v H' => ∃ y0 y1 y2 y3 y4 : Int32, H' = rS H y0 y1 y2 y3 y4 ∧ (0 ≤ y0.toInt ∧ y0.toInt ≤ 900) ∧ rdX T (pSec b T a1.toInt g) y0 y1 y2 y3 y4 ∧ v.toInt = pSecV b T a1.toInt g ∧ ((pSec b T a1.toInt g).f ≠ 0 ∨ ((pSec b T a1.toInt g).f = 0 ∧ g.f = 0 ∧ -2 ≤ v.toInt ∧ v.toInt ≤ 39 ∧ (a1.toInt = 1 → 0 ≤ v.toInt))))) := by
  obtain ⟨r0, r1, r2, r3, r4, r5⟩ := id hp1
  have w0 := hp0.2
  refine gG_call [(0, .ref 19), (1, .int a1)] ⟨rfl, rfl, trivial⟩ ?_
  show gG 2 zB_47 (mzBlk zB_47 0) [(0, .ref 19), (1, .int a1)] [] (rS H x0 x1 x2 x3 x4) 0 0 _
  refine g_iload_n rfl ?_
  refine g_sw (by decide) (fun c249 => ?_) ⟨fun c249 => ?_, fun c249 => ?_, fun c249 => ?_, fun c249 => ?_, fun c249 => ?_, fun c249 => ?_, fun c249 => ?_, fun c249 => ?_, fun c249 => ?_, trivial⟩
  · refine g_bipush (by decide) (fun v250 kv250 => ?_)
    exact g_iret ⟨_, rfl, x0, x1, x2, x3, x4, rfl, (by omega), (by unfold pSec; first | (rw [if_pos (by omega)]; exact hp1) | (rw [if_neg (by omega), if_pos (by omega)]; exact hp1) | (rw [if_neg (by omega), if_neg (by omega)]; exact hp1)), (by unfold pSecV; first | (rw [if_pos (by omega)]; exact kv250) | (rw [if_neg (by omega), if_pos (by omega)]; exact kv250) | (rw [if_neg (by omega), if_neg (by omega)]; exact kv250)), (by unfold pSec; first | (rw [if_pos (by omega)]; omega) | (rw [if_neg (by omega), if_pos (by omega)]; omega) | (rw [if_neg (by omega), if_neg (by omega)]; omega))⟩
  · refine g_aload_n rfl ?_
    refine g_iconst (by decide) (fun v251 kv251 => ?_)
    refine g_invvi (rS_I hI (by omega)) sx_19 rfl rfl rfl rfl (f_49 v251 H hI hJ x0 x1 x2 x3 x4 (by omega) hp0 hp1 hp2) (fun v254 H252 r253 => ?_)
    obtain ⟨y255, y256, y257, y258, y259, rfl, bv254, by255, zp260, zp261⟩ := r253
    rw [kv251] at zp260
    obtain ⟨razp260, rbzp260, rczp260, rdzp260, rezp260, rfzp260⟩ := id zp260
    have kzp260 := pP_ok (nm := b.nm) (P := b.P) (T := T) (but := -1) (g := g)
    exact g_iret ⟨_, rfl, y255, y256, y257, y258, y259, rfl, (by omega), (by unfold pSec; first | (rw [if_pos (by omega)]; exact zp260) | (rw [if_neg (by omega), if_pos (by omega)]; exact zp260) | (rw [if_neg (by omega), if_neg (by omega)]; exact zp260)), (by unfold pSecV; first | (rw [if_pos (by omega)]; exact zp261) | (rw [if_neg (by omega), if_pos (by omega)]; exact zp261) | (rw [if_neg (by omega), if_neg (by omega)]; exact zp261)), (by unfold pSec; first | (rw [if_pos (by omega)]; omega) | (rw [if_neg (by omega), if_pos (by omega)]; omega) | (rw [if_neg (by omega), if_neg (by omega)]; omega))⟩
  · refine g_aload_n rfl ?_
    refine g_iconst (by decide) (fun v262 kv262 => ?_)
    refine g_bipush (by decide) (fun v263 kv263 => ?_)
    refine g_invvi (rS_I hI (by omega)) sx_19 rfl rfl rfl rfl (f_48 v262 v263 H hI hJ x0 x1 x2 x3 x4 (by omega) hp0 hp1) (fun v266 H264 r265 => ?_)
    obtain ⟨y267, y268, y269, y270, y271, rfl, by267, zp272, zp273⟩ := r265
    rw [kv262] at zp272
    rw [kv263] at zp272
    obtain ⟨razp272, rbzp272, rczp272, rdzp272, rezp272, rfzp272⟩ := id zp272
    have kzp272 := pN_ok (T := T) (lo := 0) (hi := 39) (g := g)
    exact g_iret ⟨_, rfl, y267, y268, y269, y270, y271, rfl, (by omega), (by unfold pSec; first | (rw [if_pos (by omega)]; exact zp272) | (rw [if_neg (by omega), if_pos (by omega)]; exact zp272) | (rw [if_neg (by omega), if_neg (by omega)]; exact zp272)), (by unfold pSecV; first | (rw [if_pos (by omega)]; exact zp273) | (rw [if_neg (by omega), if_pos (by omega)]; exact zp273) | (rw [if_neg (by omega), if_neg (by omega)]; exact zp273)), (by unfold pSec; first | (rw [if_pos (by omega)]; omega) | (rw [if_neg (by omega), if_pos (by omega)]; omega) | (rw [if_neg (by omega), if_neg (by omega)]; omega))⟩
  · refine g_bipush (by decide) (fun v274 kv274 => ?_)
    exact g_iret ⟨_, rfl, x0, x1, x2, x3, x4, rfl, (by omega), (by unfold pSec; first | (rw [if_pos (by omega)]; exact hp1) | (rw [if_neg (by omega), if_pos (by omega)]; exact hp1) | (rw [if_neg (by omega), if_neg (by omega)]; exact hp1)), (by unfold pSecV; first | (rw [if_pos (by omega)]; exact kv274) | (rw [if_neg (by omega), if_pos (by omega)]; exact kv274) | (rw [if_neg (by omega), if_neg (by omega)]; exact kv274)), (by unfold pSec; first | (rw [if_pos (by omega)]; omega) | (rw [if_neg (by omega), if_pos (by omega)]; omega) | (rw [if_neg (by omega), if_neg (by omega)]; omega))⟩
  · refine g_bipush (by decide) (fun v275 kv275 => ?_)
    exact g_iret ⟨_, rfl, x0, x1, x2, x3, x4, rfl, (by omega), (by unfold pSec; first | (rw [if_pos (by omega)]; exact hp1) | (rw [if_neg (by omega), if_pos (by omega)]; exact hp1) | (rw [if_neg (by omega), if_neg (by omega)]; exact hp1)), (by unfold pSecV; first | (rw [if_pos (by omega)]; exact kv275) | (rw [if_neg (by omega), if_pos (by omega)]; exact kv275) | (rw [if_neg (by omega), if_neg (by omega)]; exact kv275)), (by unfold pSec; first | (rw [if_pos (by omega)]; omega) | (rw [if_neg (by omega), if_pos (by omega)]; omega) | (rw [if_neg (by omega), if_neg (by omega)]; omega))⟩
  · refine g_bipush (by decide) (fun v276 kv276 => ?_)
    exact g_iret ⟨_, rfl, x0, x1, x2, x3, x4, rfl, (by omega), (by unfold pSec; first | (rw [if_pos (by omega)]; exact hp1) | (rw [if_neg (by omega), if_pos (by omega)]; exact hp1) | (rw [if_neg (by omega), if_neg (by omega)]; exact hp1)), (by unfold pSecV; first | (rw [if_pos (by omega)]; exact kv276) | (rw [if_neg (by omega), if_pos (by omega)]; exact kv276) | (rw [if_neg (by omega), if_neg (by omega)]; exact kv276)), (by unfold pSec; first | (rw [if_pos (by omega)]; omega) | (rw [if_neg (by omega), if_pos (by omega)]; omega) | (rw [if_neg (by omega), if_neg (by omega)]; omega))⟩
  · refine g_aload_n rfl ?_
    refine g_iconst (by decide) (fun v277 kv277 => ?_)
    refine g_invvi (rS_I hI (by omega)) sx_19 rfl rfl rfl rfl (f_49 v277 H hI hJ x0 x1 x2 x3 x4 (by omega) hp0 hp1 hp2) (fun v280 H278 r279 => ?_)
    obtain ⟨y281, y282, y283, y284, y285, rfl, bv280, by281, zp286, zp287⟩ := r279
    rw [kv277] at zp286
    obtain ⟨razp286, rbzp286, rczp286, rdzp286, rezp286, rfzp286⟩ := id zp286
    have kzp286 := pP_ok (nm := b.nm) (P := b.P) (T := T) (but := -1) (g := g)
    exact g_iret ⟨_, rfl, y281, y282, y283, y284, y285, rfl, (by omega), (by unfold pSec; first | (rw [if_pos (by omega)]; exact zp286) | (rw [if_neg (by omega), if_pos (by omega)]; exact zp286) | (rw [if_neg (by omega), if_neg (by omega)]; exact zp286)), (by unfold pSecV; first | (rw [if_pos (by omega)]; exact zp287) | (rw [if_neg (by omega), if_pos (by omega)]; exact zp287) | (rw [if_neg (by omega), if_neg (by omega)]; exact zp287)), (by unfold pSec; first | (rw [if_pos (by omega)]; omega) | (rw [if_neg (by omega), if_pos (by omega)]; omega) | (rw [if_neg (by omega), if_neg (by omega)]; omega))⟩
  · refine g_aload_n rfl ?_
    refine g_iconst (by decide) (fun v288 kv288 => ?_)
    refine g_invvi (rS_I hI (by omega)) sx_19 rfl rfl rfl rfl (f_49 v288 H hI hJ x0 x1 x2 x3 x4 (by omega) hp0 hp1 hp2) (fun v291 H289 r290 => ?_)
    obtain ⟨y292, y293, y294, y295, y296, rfl, bv291, by292, zp297, zp298⟩ := r290
    rw [kv288] at zp297
    obtain ⟨razp297, rbzp297, rczp297, rdzp297, rezp297, rfzp297⟩ := id zp297
    have kzp297 := pP_ok (nm := b.nm) (P := b.P) (T := T) (but := -1) (g := g)
    exact g_iret ⟨_, rfl, y292, y293, y294, y295, y296, rfl, (by omega), (by unfold pSec; first | (rw [if_pos (by omega)]; exact zp297) | (rw [if_neg (by omega), if_pos (by omega)]; exact zp297) | (rw [if_neg (by omega), if_neg (by omega)]; exact zp297)), (by unfold pSecV; first | (rw [if_pos (by omega)]; exact zp298) | (rw [if_neg (by omega), if_pos (by omega)]; exact zp298) | (rw [if_neg (by omega), if_neg (by omega)]; exact zp298)), (by unfold pSec; first | (rw [if_pos (by omega)]; omega) | (rw [if_neg (by omega), if_pos (by omega)]; omega) | (rw [if_neg (by omega), if_neg (by omega)]; omega))⟩
  · refine g_bipush (by decide) (fun v299 kv299 => ?_)
    exact g_iret ⟨_, rfl, x0, x1, x2, x3, x4, rfl, (by omega), (by unfold pSec; first | (rw [if_pos (by omega)]; exact hp1) | (rw [if_neg (by omega), if_pos (by omega)]; exact hp1) | (rw [if_neg (by omega), if_neg (by omega)]; exact hp1)), (by unfold pSecV; first | (rw [if_pos (by omega)]; exact kv299) | (rw [if_neg (by omega), if_pos (by omega)]; exact kv299) | (rw [if_neg (by omega), if_neg (by omega)]; exact kv299)), (by unfold pSec; first | (rw [if_pos (by omega)]; omega) | (rw [if_neg (by omega), if_pos (by omega)]; omega) | (rw [if_neg (by omega), if_neg (by omega)]; omega))⟩
  · refine g_aload_n rfl ?_
    refine g_iconst (by decide) (fun v300 kv300 => ?_)
    refine g_invvi (rS_I hI (by omega)) sx_19 rfl rfl rfl rfl (f_49 v300 H hI hJ x0 x1 x2 x3 x4 (by omega) hp0 hp1 hp2) (fun v303 H301 r302 => ?_)
    obtain ⟨y304, y305, y306, y307, y308, rfl, bv303, by304, zp309, zp310⟩ := r302
    rw [kv300] at zp309
    obtain ⟨razp309, rbzp309, rczp309, rdzp309, rezp309, rfzp309⟩ := id zp309
    have kzp309 := pP_ok (nm := b.nm) (P := b.P) (T := T) (but := -1) (g := g)
    exact g_iret ⟨_, rfl, y304, y305, y306, y307, y308, rfl, (by omega), (by unfold pSec; first | (rw [if_pos (by omega)]; exact zp309) | (rw [if_neg (by omega), if_pos (by omega)]; exact zp309) | (rw [if_neg (by omega), if_neg (by omega)]; exact zp309)), (by unfold pSecV; first | (rw [if_pos (by omega)]; exact zp310) | (rw [if_neg (by omega), if_pos (by omega)]; exact zp310) | (rw [if_neg (by omega), if_neg (by omega)]; exact zp310)), (by unfold pSec; first | (rw [if_pos (by omega)]; omega) | (rw [if_neg (by omega), if_pos (by omega)]; omega) | (rw [if_neg (by omega), if_neg (by omega)]; omega))⟩
set_option maxRecDepth 4000 in
set_option maxHeartbeats 4000000 in
/-- X4.readPlace, exactly -/
theorem f_42 (H : mzH) (hI : gI SX H) (hJ : JX H) (x0 x1 x2 x3 x4 : Int32) (hx0 : 0 ≤ x0.toInt ∧ x0.toInt ≤ 900) {T : pT} {g : pG} {b : pB} (hp0 : tkH H T) (hp1 : rdX T g x0 x1 x2 x3 x4) (hp2 : bkX H 11 b) : gCall 42 [.ref 19] (rS H x0 x1 x2 x3 x4) (gRv (fun H' => ∃ B : mzH, ∃ y0 y1 y2 y3 y4 : Int32, H' = rS B y0 y1 y2 y3 y4 ∧ gI SX B ∧ JX B ∧ (0 ≤ y0.toInt ∧ y0.toInt ≤ 900) ∧ rdX T (pRdP b T g) y0 y1 y2 y3 y4 ∧ tkH B T ∧ bkX B 11 (bRdP b T g) ∧ frD H B)) := by
  obtain ⟨r0, r1, r2, r3, r4, r5⟩ := id hp1
  have w0 := hp0.2
  have w1 := hp2.1
  have w2 := fZ_of hI sx_11 (f := 7) rfl
  refine gG_call [(0, .ref 19)] ⟨rfl, trivial⟩ ?_
  show gG 2 zB_42 (mzBlk zB_42 0) [(0, .ref 19)] [] (rS H x0 x1 x2 x3 x4) 0 0 _
  refine g_aload_n rfl ?_
  refine g_gfr (rS_I hI (by omega)) sx_19 rfl ?_
  refine g_gfi (rS_I hI (by omega)) sx_11 rfl (fun v741 ev741 lv741 uv741 => ?_)
  have iv741 : v741.toInt = (fZ H 11 7).toInt := by rw [ev741, ← rS_o (by decide)]
  refine g_bipush (by decide) (fun v742 kv742 => ?_)
  refine g_if2_ne (fun c743 => ?_) (fun c743 => ?_)
  · refine g_aload_n rfl ?_
    refine g_iconst (by decide) (fun v744 kv744 => ?_)
    refine g_iconst (by decide) (fun v745 kv745 => ?_)
    refine g_invvi (rS_I hI (by omega)) sx_19 rfl rfl rfl rfl (f_50 v744 v745 H hI hJ x0 x1 x2 x3 x4 (by omega) hp0 hp1) (fun v748 H746 r747 => ?_)
    obtain ⟨y749, y750, y751, y752, y753, rfl, by749, zp754, zp755⟩ := r747
    rw [kv744] at zp754
    rw [kv744] at zp755
    rw [kv745] at zp754
    rw [kv745] at zp755
    obtain ⟨razp754, rbzp754, rczp754, rdzp754, rezp754, rfzp754⟩ := id zp754
    have al756 : pRdP1 b T g = (pTake T 0 0 g) := by unfold pRdP1; first | rw [if_pos (by omega)] | rw [if_neg (by omega)]
    have zp757 := zp754
    rw [← al756] at zp757
    rw [← al756] at zp755
    obtain ⟨razp757, rbzp757, rczp757, rdzp757, rezp757, rfzp757⟩ := id zp757
    refine g_pop rfl ?_
    refine g_aload_n rfl ?_
    refine g_gfk (rS_I hI (by omega)) sx_19 rfl (rS_g4 hI) ?_
    refine g_istore_n (l' := [(0, .ref 19), (1, .int y751)]) rfl rfl ?_
    refine g_aload_n rfl ?_
    refine g_gfk (rS_I hI (by omega)) sx_19 rfl (rS_g3 hI) ?_
    refine g_bipush (by decide) (fun v758 kv758 => ?_)
    refine g_if2_ne (fun c759 => ?_) (fun c759 => ?_)
    · refine g_aload_n rfl ?_
      refine g_bipush (by decide) (fun v760 kv760 => ?_)
      refine g_bipush (by decide) (fun v761 kv761 => ?_)
      refine g_invvi (rS_I hI (by omega)) sx_19 rfl rfl rfl rfl (f_50 v760 v761 H hI hJ y749 y750 y751 y752 y753 (by omega) hp0 zp757) (fun v764 H762 r763 => ?_)
      obtain ⟨y765, y766, y767, y768, y769, rfl, by765, zp770, zp771⟩ := r763
      rw [kv760] at zp770
      rw [kv760] at zp771
      rw [kv761] at zp770
      rw [kv761] at zp771
      obtain ⟨razp770, rbzp770, rczp770, rdzp770, rezp770, rfzp770⟩ := id zp770
      have al772 : pRdP b T g = (pTake T 18 18 (pRdP1 b T g)) := by unfold pRdP; first | rw [if_pos (by omega)] | rw [if_neg (by omega)]
      have zp773 := zp770
      rw [← al772] at zp773
      rw [← al772] at zp771
      obtain ⟨razp773, rbzp773, rczp773, rdzp773, rezp773, rfzp773⟩ := id zp773
      refine g_pop rfl ?_
      refine g_aload_n rfl ?_
      refine g_gfk (rS_I hI (by omega)) sx_19 rfl (rS_g5 hI) ?_
      refine g_if_ne (fun c774 => ?_) (fun c774 => ?_)
      · exact g_ret ⟨rfl, H, y765, y766, y767, y768, y769, rfl, hI, hJ, (by omega), zp773, hp0, (by unfold bRdP; rw [if_neg (by omega)]; exact hp2), (fun _ _ => rfl)⟩
      · refine g_aload_n rfl ?_
        refine g_gfr (rS_I hI (by omega)) sx_19 rfl ?_
        refine g_iload_n rfl ?_
        refine g_invvv (rS_I hI (by omega)) sx_11 rfl rfl rfl rfl (f_14 y751 H hI hJ y765 y766 y767 y768 y769 (by omega) hp2 (by omega)) (fun H775 r776 => ?_)
        obtain ⟨B779, rfl, hIB779, hJB779, zp777, zp778⟩ := r776
        refine g_nop ?_
        exact g_ret ⟨rfl, B779, y765, y766, y767, y768, y769, rfl, hIB779, hJB779, (by omega), zp773, (tk_fr hp0 zp777), (by unfold bRdP; rw [if_pos (by omega)]; rw [← rczp757]; exact zp778), zp777⟩
    · refine g_aload_n rfl ?_
      refine g_gfr (rS_I hI (by omega)) sx_19 rfl ?_
      refine g_iload_n rfl ?_
      refine g_invvi (rS_I hI (by omega)) sx_11 rfl rfl rfl rfl (f_13 y751 H hI hJ y749 y750 y751 y752 y753 (by omega) hp2) (fun v782 H780 r781 => ?_)
      obtain ⟨rfl, bv782, zp783⟩ := r781
      rw [rczp757] at zp783
      refine g_bipush (by decide) (fun v784 kv784 => ?_)
      refine g_if2_eq (fun c785 => ?_) (fun c785 => ?_)
      · refine g_aload_n rfl ?_
        refine g_bipush (by decide) (fun v786 kv786 => ?_)
        refine g_bipush (by decide) (fun v787 kv787 => ?_)
        refine g_invvi (rS_I hI (by omega)) sx_19 rfl rfl rfl rfl (f_50 v786 v787 H hI hJ y749 y750 y751 y752 y753 (by omega) hp0 zp757) (fun v790 H788 r789 => ?_)
        obtain ⟨y791, y792, y793, y794, y795, rfl, by791, zp796, zp797⟩ := r789
        rw [kv786] at zp796
        rw [kv786] at zp797
        rw [kv787] at zp796
        rw [kv787] at zp797
        obtain ⟨razp796, rbzp796, rczp796, rdzp796, rezp796, rfzp796⟩ := id zp796
        have al798 : pRdP b T g = (pTake T 18 18 (pRdP1 b T g)) := by unfold pRdP; first | rw [if_pos (by omega)] | rw [if_neg (by omega)]
        have zp799 := zp796
        rw [← al798] at zp799
        rw [← al798] at zp797
        obtain ⟨razp799, rbzp799, rczp799, rdzp799, rezp799, rfzp799⟩ := id zp799
        refine g_pop rfl ?_
        refine g_aload_n rfl ?_
        refine g_gfk (rS_I hI (by omega)) sx_19 rfl (rS_g5 hI) ?_
        refine g_if_ne (fun c800 => ?_) (fun c800 => ?_)
        · exact g_ret ⟨rfl, H, y791, y792, y793, y794, y795, rfl, hI, hJ, (by omega), zp799, hp0, (by unfold bRdP; rw [if_neg (by omega)]; exact hp2), (fun _ _ => rfl)⟩
        · refine g_aload_n rfl ?_
          refine g_gfr (rS_I hI (by omega)) sx_19 rfl ?_
          refine g_iload_n rfl ?_
          refine g_invvv (rS_I hI (by omega)) sx_11 rfl rfl rfl rfl (f_14 y751 H hI hJ y791 y792 y793 y794 y795 (by omega) hp2 (by omega)) (fun H801 r802 => ?_)
          obtain ⟨B805, rfl, hIB805, hJB805, zp803, zp804⟩ := r802
          refine g_nop ?_
          exact g_ret ⟨rfl, B805, y791, y792, y793, y794, y795, rfl, hIB805, hJB805, (by omega), zp799, (tk_fr hp0 zp803), (by unfold bRdP; rw [if_pos (by omega)]; rw [← rczp757]; exact zp804), zp803⟩
      · refine g_aload_n rfl ?_
        refine g_iconst (by decide) (fun v806 kv806 => ?_)
        refine g_invvv (rS_I hI (by omega)) sx_19 rfl rfl rfl rfl (f_40 v806 (by omega) H hI hJ y749 y750 y751 y752 y753 (by omega) hp0 zp757) (fun H807 r808 => ?_)
        obtain ⟨y809, y810, rfl, zp811⟩ := r808
        rw [kv806] at zp811
        obtain ⟨razp811, rbzp811, rczp811, rdzp811, rezp811, rfzp811⟩ := id zp811
        have nzp811 := pF_ne (T := T) (g := (pRdP1 b T g)) (n := 3) (by omega)
        refine g_nop ?_
        refine g_aload_n rfl ?_
        refine g_bipush (by decide) (fun v812 kv812 => ?_)
        refine g_bipush (by decide) (fun v813 kv813 => ?_)
        refine g_invvi (rS_I hI (by omega)) sx_19 rfl rfl rfl rfl (f_50 v812 v813 H hI hJ y749 y750 y751 y809 y810 (by omega) hp0 zp811) (fun v816 H814 r815 => ?_)
        obtain ⟨y817, y818, y819, y820, y821, rfl, by817, zp822, zp823⟩ := r815
        rw [kv812] at zp822
        rw [kv812] at zp823
        rw [kv813] at zp822
        rw [kv813] at zp823
        obtain ⟨razp822, rbzp822, rczp822, rdzp822, rezp822, rfzp822⟩ := id zp822
        have al824 : pRdP b T g = (pTake T 18 18 (pFail T 3 (pRdP1 b T g))) := by unfold pRdP; first | rw [if_pos (by omega)] | rw [if_neg (by omega)]
        have zp825 := zp822
        rw [← al824] at zp825
        rw [← al824] at zp823
        obtain ⟨razp825, rbzp825, rczp825, rdzp825, rezp825, rfzp825⟩ := id zp825
        refine g_pop rfl ?_
        refine g_aload_n rfl ?_
        refine g_gfk (rS_I hI (by omega)) sx_19 rfl (rS_g5 hI) ?_
        refine g_if_ne (fun c826 => ?_) (fun c826 => ?_)
        · exact g_ret ⟨rfl, H, y817, y818, y819, y820, y821, rfl, hI, hJ, (by omega), zp825, hp0, (by unfold bRdP; rw [if_neg (by omega)]; exact hp2), (fun _ _ => rfl)⟩
        · refine g_aload_n rfl ?_
          refine g_gfr (rS_I hI (by omega)) sx_19 rfl ?_
          refine g_iload_n rfl ?_
          refine g_invvv (rS_I hI (by omega)) sx_11 rfl rfl rfl rfl (f_14 y751 H hI hJ y817 y818 y819 y820 y821 (by omega) hp2 (by omega)) (fun H827 r828 => ?_)
          obtain ⟨B831, rfl, hIB831, hJB831, zp829, zp830⟩ := r828
          refine g_nop ?_
          exact g_ret ⟨rfl, B831, y817, y818, y819, y820, y821, rfl, hIB831, hJB831, (by omega), zp825, (tk_fr hp0 zp829), (by unfold bRdP; rw [if_pos (by omega)]; rw [← rczp757]; exact zp830), zp829⟩
  · refine g_aload_n rfl ?_
    refine g_iconst (by decide) (fun v832 kv832 => ?_)
    refine g_invvv (rS_I hI (by omega)) sx_19 rfl rfl rfl rfl (f_40 v832 (by omega) H hI hJ x0 x1 x2 x3 x4 (by omega) hp0 hp1) (fun H833 r834 => ?_)
    obtain ⟨y835, y836, rfl, zp837⟩ := r834
    rw [kv832] at zp837
    obtain ⟨razp837, rbzp837, rczp837, rdzp837, rezp837, rfzp837⟩ := id zp837
    have nzp837 := pF_ne (T := T) (g := g) (n := 2) (by omega)
    refine g_nop ?_
    refine g_aload_n rfl ?_
    refine g_iconst (by decide) (fun v838 kv838 => ?_)
    refine g_iconst (by decide) (fun v839 kv839 => ?_)
    refine g_invvi (rS_I hI (by omega)) sx_19 rfl rfl rfl rfl (f_50 v838 v839 H hI hJ x0 x1 x2 y835 y836 (by omega) hp0 zp837) (fun v842 H840 r841 => ?_)
    obtain ⟨y843, y844, y845, y846, y847, rfl, by843, zp848, zp849⟩ := r841
    rw [kv838] at zp848
    rw [kv838] at zp849
    rw [kv839] at zp848
    rw [kv839] at zp849
    obtain ⟨razp848, rbzp848, rczp848, rdzp848, rezp848, rfzp848⟩ := id zp848
    have al850 : pRdP1 b T g = (pTake T 0 0 (pFail T 2 g)) := by unfold pRdP1; first | rw [if_pos (by omega)] | rw [if_neg (by omega)]
    have zp851 := zp848
    rw [← al850] at zp851
    rw [← al850] at zp849
    obtain ⟨razp851, rbzp851, rczp851, rdzp851, rezp851, rfzp851⟩ := id zp851
    refine g_pop rfl ?_
    refine g_aload_n rfl ?_
    refine g_gfk (rS_I hI (by omega)) sx_19 rfl (rS_g4 hI) ?_
    refine g_istore_n (l' := [(0, .ref 19), (1, .int y845)]) rfl rfl ?_
    refine g_aload_n rfl ?_
    refine g_gfk (rS_I hI (by omega)) sx_19 rfl (rS_g3 hI) ?_
    refine g_bipush (by decide) (fun v852 kv852 => ?_)
    refine g_if2_ne (fun c853 => ?_) (fun c853 => ?_)
    · refine g_aload_n rfl ?_
      refine g_bipush (by decide) (fun v854 kv854 => ?_)
      refine g_bipush (by decide) (fun v855 kv855 => ?_)
      refine g_invvi (rS_I hI (by omega)) sx_19 rfl rfl rfl rfl (f_50 v854 v855 H hI hJ y843 y844 y845 y846 y847 (by omega) hp0 zp851) (fun v858 H856 r857 => ?_)
      obtain ⟨y859, y860, y861, y862, y863, rfl, by859, zp864, zp865⟩ := r857
      rw [kv854] at zp864
      rw [kv854] at zp865
      rw [kv855] at zp864
      rw [kv855] at zp865
      obtain ⟨razp864, rbzp864, rczp864, rdzp864, rezp864, rfzp864⟩ := id zp864
      have al866 : pRdP b T g = (pTake T 18 18 (pRdP1 b T g)) := by unfold pRdP; first | rw [if_pos (by omega)] | rw [if_neg (by omega)]
      have zp867 := zp864
      rw [← al866] at zp867
      rw [← al866] at zp865
      obtain ⟨razp867, rbzp867, rczp867, rdzp867, rezp867, rfzp867⟩ := id zp867
      refine g_pop rfl ?_
      refine g_aload_n rfl ?_
      refine g_gfk (rS_I hI (by omega)) sx_19 rfl (rS_g5 hI) ?_
      refine g_if_ne (fun c868 => ?_) (fun c868 => ?_)
      · exact g_ret ⟨rfl, H, y859, y860, y861, y862, y863, rfl, hI, hJ, (by omega), zp867, hp0, (by unfold bRdP; rw [if_neg (by omega)]; exact hp2), (fun _ _ => rfl)⟩
      · refine g_aload_n rfl ?_
        refine g_gfr (rS_I hI (by omega)) sx_19 rfl ?_
        refine g_iload_n rfl ?_
        refine g_invvv (rS_I hI (by omega)) sx_11 rfl rfl rfl rfl (f_14 y845 H hI hJ y859 y860 y861 y862 y863 (by omega) hp2 (by omega)) (fun H869 r870 => ?_)
        obtain ⟨B873, rfl, hIB873, hJB873, zp871, zp872⟩ := r870
        refine g_nop ?_
        exact g_ret ⟨rfl, B873, y859, y860, y861, y862, y863, rfl, hIB873, hJB873, (by omega), zp867, (tk_fr hp0 zp871), (by unfold bRdP; rw [if_pos (by omega)]; rw [← rczp851]; exact zp872), zp871⟩
    · refine g_aload_n rfl ?_
      refine g_gfr (rS_I hI (by omega)) sx_19 rfl ?_
      refine g_iload_n rfl ?_
      refine g_invvi (rS_I hI (by omega)) sx_11 rfl rfl rfl rfl (f_13 y845 H hI hJ y843 y844 y845 y846 y847 (by omega) hp2) (fun v876 H874 r875 => ?_)
      obtain ⟨rfl, bv876, zp877⟩ := r875
      rw [rczp851] at zp877
      refine g_bipush (by decide) (fun v878 kv878 => ?_)
      refine g_if2_eq (fun c879 => ?_) (fun c879 => ?_)
      · refine g_aload_n rfl ?_
        refine g_bipush (by decide) (fun v880 kv880 => ?_)
        refine g_bipush (by decide) (fun v881 kv881 => ?_)
        refine g_invvi (rS_I hI (by omega)) sx_19 rfl rfl rfl rfl (f_50 v880 v881 H hI hJ y843 y844 y845 y846 y847 (by omega) hp0 zp851) (fun v884 H882 r883 => ?_)
        obtain ⟨y885, y886, y887, y888, y889, rfl, by885, zp890, zp891⟩ := r883
        rw [kv880] at zp890
        rw [kv880] at zp891
        rw [kv881] at zp890
        rw [kv881] at zp891
        obtain ⟨razp890, rbzp890, rczp890, rdzp890, rezp890, rfzp890⟩ := id zp890
        have al892 : pRdP b T g = (pTake T 18 18 (pRdP1 b T g)) := by unfold pRdP; first | rw [if_pos (by omega)] | rw [if_neg (by omega)]
        have zp893 := zp890
        rw [← al892] at zp893
        rw [← al892] at zp891
        obtain ⟨razp893, rbzp893, rczp893, rdzp893, rezp893, rfzp893⟩ := id zp893
        refine g_pop rfl ?_
        refine g_aload_n rfl ?_
        refine g_gfk (rS_I hI (by omega)) sx_19 rfl (rS_g5 hI) ?_
        refine g_if_ne (fun c894 => ?_) (fun c894 => ?_)
        · exact g_ret ⟨rfl, H, y885, y886, y887, y888, y889, rfl, hI, hJ, (by omega), zp893, hp0, (by unfold bRdP; rw [if_neg (by omega)]; exact hp2), (fun _ _ => rfl)⟩
        · refine g_aload_n rfl ?_
          refine g_gfr (rS_I hI (by omega)) sx_19 rfl ?_
          refine g_iload_n rfl ?_
          refine g_invvv (rS_I hI (by omega)) sx_11 rfl rfl rfl rfl (f_14 y845 H hI hJ y885 y886 y887 y888 y889 (by omega) hp2 (by omega)) (fun H895 r896 => ?_)
          obtain ⟨B899, rfl, hIB899, hJB899, zp897, zp898⟩ := r896
          refine g_nop ?_
          exact g_ret ⟨rfl, B899, y885, y886, y887, y888, y889, rfl, hIB899, hJB899, (by omega), zp893, (tk_fr hp0 zp897), (by unfold bRdP; rw [if_pos (by omega)]; rw [← rczp851]; exact zp898), zp897⟩
      · refine g_aload_n rfl ?_
        refine g_iconst (by decide) (fun v900 kv900 => ?_)
        refine g_invvv (rS_I hI (by omega)) sx_19 rfl rfl rfl rfl (f_40 v900 (by omega) H hI hJ y843 y844 y845 y846 y847 (by omega) hp0 zp851) (fun H901 r902 => ?_)
        obtain ⟨y903, y904, rfl, zp905⟩ := r902
        rw [kv900] at zp905
        obtain ⟨razp905, rbzp905, rczp905, rdzp905, rezp905, rfzp905⟩ := id zp905
        have nzp905 := pF_ne (T := T) (g := (pRdP1 b T g)) (n := 3) (by omega)
        refine g_nop ?_
        refine g_aload_n rfl ?_
        refine g_bipush (by decide) (fun v906 kv906 => ?_)
        refine g_bipush (by decide) (fun v907 kv907 => ?_)
        refine g_invvi (rS_I hI (by omega)) sx_19 rfl rfl rfl rfl (f_50 v906 v907 H hI hJ y843 y844 y845 y903 y904 (by omega) hp0 zp905) (fun v910 H908 r909 => ?_)
        obtain ⟨y911, y912, y913, y914, y915, rfl, by911, zp916, zp917⟩ := r909
        rw [kv906] at zp916
        rw [kv906] at zp917
        rw [kv907] at zp916
        rw [kv907] at zp917
        obtain ⟨razp916, rbzp916, rczp916, rdzp916, rezp916, rfzp916⟩ := id zp916
        have al918 : pRdP b T g = (pTake T 18 18 (pFail T 3 (pRdP1 b T g))) := by unfold pRdP; first | rw [if_pos (by omega)] | rw [if_neg (by omega)]
        have zp919 := zp916
        rw [← al918] at zp919
        rw [← al918] at zp917
        obtain ⟨razp919, rbzp919, rczp919, rdzp919, rezp919, rfzp919⟩ := id zp919
        refine g_pop rfl ?_
        refine g_aload_n rfl ?_
        refine g_gfk (rS_I hI (by omega)) sx_19 rfl (rS_g5 hI) ?_
        refine g_if_ne (fun c920 => ?_) (fun c920 => ?_)
        · exact g_ret ⟨rfl, H, y911, y912, y913, y914, y915, rfl, hI, hJ, (by omega), zp919, hp0, (by unfold bRdP; rw [if_neg (by omega)]; exact hp2), (fun _ _ => rfl)⟩
        · refine g_aload_n rfl ?_
          refine g_gfr (rS_I hI (by omega)) sx_19 rfl ?_
          refine g_iload_n rfl ?_
          refine g_invvv (rS_I hI (by omega)) sx_11 rfl rfl rfl rfl (f_14 y845 H hI hJ y911 y912 y913 y914 y915 (by omega) hp2 (by omega)) (fun H921 r922 => ?_)
          obtain ⟨B925, rfl, hIB925, hJB925, zp923, zp924⟩ := r922
          refine g_nop ?_
          exact g_ret ⟨rfl, B925, y911, y912, y913, y914, y915, rfl, hIB925, hJB925, (by omega), zp919, (tk_fr hp0 zp923), (by unfold bRdP; rw [if_pos (by omega)]; rw [← rczp851]; exact zp924), zp923⟩
set_option maxRecDepth 4000 in
set_option maxHeartbeats 4000000 in
/-- X4.readRoad, exactly -/
theorem f_43 (H : mzH) (hI : gI SX H) (hJ : JX H) (x0 x1 x2 x3 x4 : Int32) (hx0 : 0 ≤ x0.toInt ∧ x0.toInt ≤ 900) {T : pT} {g : pG} {b : pB} (hp0 : tkH H T) (hp1 : rdX T g x0 x1 x2 x3 x4) (hp2 : bkX H 11 b) : gCall 43 [.ref 19] (rS H x0 x1 x2 x3 x4) (gRv (fun H' => ∃ B : mzH, ∃ y0 y1 y2 y3 y4 : Int32, H' = rS B y0 y1 y2 y3 y4 ∧ gI SX B ∧ JX B ∧ (0 ≤ y0.toInt ∧ y0.toInt ≤ 900) ∧ rdX T (pRdR b T g) y0 y1 y2 y3 y4 ∧ tkH B T ∧ bkX B 11 (bRdR b T g) ∧ frD H B)) := by
  obtain ⟨r0, r1, r2, r3, r4, r5⟩ := id hp1
  have w0 := hp0.2
  have w1 := hp2.2.1
  have w2 := hp2.2.2.2.2.2.2.2.2
  refine gG_call [(0, .ref 19)] ⟨rfl, trivial⟩ ?_
  show gG 4 zB_43 (mzBlk zB_43 0) [(0, .ref 19)] [] (rS H x0 x1 x2 x3 x4) 0 0 _
  refine g_aload_n rfl ?_
  refine g_gfr (rS_I hI (by omega)) sx_19 rfl ?_
  refine g_gfi (rS_I hI (by omega)) sx_11 rfl (fun v509 ev509 lv509 uv509 => ?_)
  have iv509 : v509.toInt = (fZ H 11 8).toInt := by rw [ev509, ← rS_o (by decide)]
  refine g_bipush (by decide) (fun v510 kv510 => ?_)
  refine g_if2_ne (fun c511 => ?_) (fun c511 => ?_)
  · refine g_aload_n rfl ?_
    refine g_iconst (by decide) (fun v512 kv512 => ?_)
    refine g_iconst (by decide) (fun v513 kv513 => ?_)
    refine g_invvi (rS_I hI (by omega)) sx_19 rfl rfl rfl rfl (f_50 v512 v513 H hI hJ x0 x1 x2 x3 x4 (by omega) hp0 hp1) (fun v516 H514 r515 => ?_)
    obtain ⟨y517, y518, y519, y520, y521, rfl, by517, zp522, zp523⟩ := r515
    rw [kv512] at zp522
    rw [kv512] at zp523
    rw [kv513] at zp522
    rw [kv513] at zp523
    obtain ⟨razp522, rbzp522, rczp522, rdzp522, rezp522, rfzp522⟩ := id zp522
    have al524 : pRdR1 b T g = (pTake T 1 1 g) := by unfold pRdR1; first | rw [if_pos (by omega)] | rw [if_neg (by omega)]
    have zp525 := zp522
    rw [← al524] at zp525
    rw [← al524] at zp523
    obtain ⟨razp525, rbzp525, rczp525, rdzp525, rezp525, rfzp525⟩ := id zp525
    refine g_pop rfl ?_
    refine g_aload_n rfl ?_
    refine g_iconst (by decide) (fun v526 kv526 => ?_)
    refine g_invvi (rS_I hI (by omega)) sx_19 rfl rfl rfl rfl (f_49 v526 H hI hJ y517 y518 y519 y520 y521 (by omega) hp0 zp525 hp2) (fun v529 H527 r528 => ?_)
    obtain ⟨y530, y531, y532, y533, y534, rfl, bv529, by530, zp535, zp536⟩ := r528
    rw [kv526] at zp535
    obtain ⟨razp535, rbzp535, rczp535, rdzp535, rezp535, rfzp535⟩ := id zp535
    have kzp535 := pP_ok (nm := b.nm) (P := b.P) (T := T) (but := -1) (g := (pRdR1 b T g))
    have al537 : pRdR2 b T g = (pPlc b.nm b.P T (-1) (pRdR1 b T g)) := by rfl
    have zp538 := zp535
    rw [← al537] at zp538
    rw [← al537] at kzp535
    obtain ⟨razp538, rbzp538, rczp538, rdzp538, rezp538, rfzp538⟩ := id zp538
    refine g_istore_n (l' := [(0, .ref 19), (1, .int v529)]) rfl rfl ?_
    refine g_aload_n rfl ?_
    refine g_iload_n rfl ?_
    refine g_invvi (rS_I hI (by omega)) sx_19 rfl rfl rfl rfl (f_49 v529 H hI hJ y530 y531 y532 y533 y534 (by omega) hp0 zp538 hp2) (fun v541 H539 r540 => ?_)
    obtain ⟨y542, y543, y544, y545, y546, rfl, bv541, by542, zp547, zp548⟩ := r540
    obtain ⟨razp547, rbzp547, rczp547, rdzp547, rezp547, rfzp547⟩ := id zp547
    have kzp547 := pP_ok (nm := b.nm) (P := b.P) (T := T) (but := v529.toInt) (g := (pRdR2 b T g))
    have al549 : pRdR3 b T g = (pPlc b.nm b.P T v529.toInt (pRdR2 b T g)) := by unfold pRdR3; rw [← zp536]
    have zp550 := zp547
    rw [← al549] at zp550
    rw [← al549] at kzp547
    obtain ⟨razp550, rbzp550, rczp550, rdzp550, rezp550, rfzp550⟩ := id zp550
    refine g_istore_n (l' := [(0, .ref 19), (1, .int v529), (2, .int v541)]) rfl rfl ?_
    refine g_aload_n rfl ?_
    refine g_iconst (by decide) (fun v551 kv551 => ?_)
    refine g_bipush (by decide) (fun v552 kv552 => ?_)
    refine g_invvi (rS_I hI (by omega)) sx_19 rfl rfl rfl rfl (f_48 v551 v552 H hI hJ y542 y543 y544 y545 y546 (by omega) hp0 zp550) (fun v555 H553 r554 => ?_)
    obtain ⟨y556, y557, y558, y559, y560, rfl, by556, zp561, zp562⟩ := r554
    rw [kv551] at zp561
    rw [kv552] at zp561
    obtain ⟨razp561, rbzp561, rczp561, rdzp561, rezp561, rfzp561⟩ := id zp561
    have kzp561 := pN_ok (T := T) (lo := 1) (hi := 99) (g := (pRdR3 b T g))
    have al563 : pRdR b T g = (pNumb T 1 99 (pRdR3 b T g)) := by rfl
    have zp564 := zp561
    rw [← al563] at zp564
    rw [← al563] at kzp561
    obtain ⟨razp564, rbzp564, rczp564, rdzp564, rezp564, rfzp564⟩ := id zp564
    refine g_istore_n (l' := [(0, .ref 19), (1, .int v529), (2, .int v541), (3, .int v555)]) rfl rfl ?_
    refine g_aload_n rfl ?_
    refine g_gfk (rS_I hI (by omega)) sx_19 rfl (rS_g5 hI) ?_
    refine g_if_ne (fun c565 => ?_) (fun c565 => ?_)
    · exact g_ret ⟨rfl, H, y556, y557, y558, y559, y560, rfl, hI, hJ, (by omega), zp564, hp0, (by unfold bRdR; rw [if_neg (by omega)]; exact hp2), (fun _ _ => rfl)⟩
    · refine g_aload_n rfl ?_
      refine g_gfr (rS_I hI (by omega)) sx_19 rfl ?_
      refine g_iload_n rfl ?_
      refine g_iload_n rfl ?_
      refine g_iload_n rfl ?_
      refine g_invvv (rS_I hI (by omega)) sx_11 rfl rfl rfl rfl (f_15 v529 v541 v555 H hI hJ y556 y557 y558 y559 y560 (by omega) hp2 (by omega)) (fun H566 r567 => ?_)
      obtain ⟨B570, rfl, hIB570, hJB570, zp568, zp569⟩ := r567
      refine g_nop ?_
      exact g_ret ⟨rfl, B570, y556, y557, y558, y559, y560, rfl, hIB570, hJB570, (by omega), zp564, (tk_fr hp0 zp568), (by unfold bRdR; rw [if_pos (by omega)]; exact zp569), zp568⟩
  · refine g_aload_n rfl ?_
    refine g_iconst (by decide) (fun v571 kv571 => ?_)
    refine g_invvv (rS_I hI (by omega)) sx_19 rfl rfl rfl rfl (f_40 v571 (by omega) H hI hJ x0 x1 x2 x3 x4 (by omega) hp0 hp1) (fun H572 r573 => ?_)
    obtain ⟨y574, y575, rfl, zp576⟩ := r573
    rw [kv571] at zp576
    obtain ⟨razp576, rbzp576, rczp576, rdzp576, rezp576, rfzp576⟩ := id zp576
    have nzp576 := pF_ne (T := T) (g := g) (n := 2) (by omega)
    refine g_nop ?_
    refine g_aload_n rfl ?_
    refine g_iconst (by decide) (fun v577 kv577 => ?_)
    refine g_iconst (by decide) (fun v578 kv578 => ?_)
    refine g_invvi (rS_I hI (by omega)) sx_19 rfl rfl rfl rfl (f_50 v577 v578 H hI hJ x0 x1 x2 y574 y575 (by omega) hp0 zp576) (fun v581 H579 r580 => ?_)
    obtain ⟨y582, y583, y584, y585, y586, rfl, by582, zp587, zp588⟩ := r580
    rw [kv577] at zp587
    rw [kv577] at zp588
    rw [kv578] at zp587
    rw [kv578] at zp588
    obtain ⟨razp587, rbzp587, rczp587, rdzp587, rezp587, rfzp587⟩ := id zp587
    have al589 : pRdR1 b T g = (pTake T 1 1 (pFail T 2 g)) := by unfold pRdR1; first | rw [if_pos (by omega)] | rw [if_neg (by omega)]
    have zp590 := zp587
    rw [← al589] at zp590
    rw [← al589] at zp588
    obtain ⟨razp590, rbzp590, rczp590, rdzp590, rezp590, rfzp590⟩ := id zp590
    refine g_pop rfl ?_
    refine g_aload_n rfl ?_
    refine g_iconst (by decide) (fun v591 kv591 => ?_)
    refine g_invvi (rS_I hI (by omega)) sx_19 rfl rfl rfl rfl (f_49 v591 H hI hJ y582 y583 y584 y585 y586 (by omega) hp0 zp590 hp2) (fun v594 H592 r593 => ?_)
    obtain ⟨y595, y596, y597, y598, y599, rfl, bv594, by595, zp600, zp601⟩ := r593
    rw [kv591] at zp600
    obtain ⟨razp600, rbzp600, rczp600, rdzp600, rezp600, rfzp600⟩ := id zp600
    have kzp600 := pP_ok (nm := b.nm) (P := b.P) (T := T) (but := -1) (g := (pRdR1 b T g))
    have al602 : pRdR2 b T g = (pPlc b.nm b.P T (-1) (pRdR1 b T g)) := by rfl
    have zp603 := zp600
    rw [← al602] at zp603
    rw [← al602] at kzp600
    obtain ⟨razp603, rbzp603, rczp603, rdzp603, rezp603, rfzp603⟩ := id zp603
    refine g_istore_n (l' := [(0, .ref 19), (1, .int v594)]) rfl rfl ?_
    refine g_aload_n rfl ?_
    refine g_iload_n rfl ?_
    refine g_invvi (rS_I hI (by omega)) sx_19 rfl rfl rfl rfl (f_49 v594 H hI hJ y595 y596 y597 y598 y599 (by omega) hp0 zp603 hp2) (fun v606 H604 r605 => ?_)
    obtain ⟨y607, y608, y609, y610, y611, rfl, bv606, by607, zp612, zp613⟩ := r605
    obtain ⟨razp612, rbzp612, rczp612, rdzp612, rezp612, rfzp612⟩ := id zp612
    have kzp612 := pP_ok (nm := b.nm) (P := b.P) (T := T) (but := v594.toInt) (g := (pRdR2 b T g))
    have al614 : pRdR3 b T g = (pPlc b.nm b.P T v594.toInt (pRdR2 b T g)) := by unfold pRdR3; rw [← zp601]
    have zp615 := zp612
    rw [← al614] at zp615
    rw [← al614] at kzp612
    obtain ⟨razp615, rbzp615, rczp615, rdzp615, rezp615, rfzp615⟩ := id zp615
    refine g_istore_n (l' := [(0, .ref 19), (1, .int v594), (2, .int v606)]) rfl rfl ?_
    refine g_aload_n rfl ?_
    refine g_iconst (by decide) (fun v616 kv616 => ?_)
    refine g_bipush (by decide) (fun v617 kv617 => ?_)
    refine g_invvi (rS_I hI (by omega)) sx_19 rfl rfl rfl rfl (f_48 v616 v617 H hI hJ y607 y608 y609 y610 y611 (by omega) hp0 zp615) (fun v620 H618 r619 => ?_)
    obtain ⟨y621, y622, y623, y624, y625, rfl, by621, zp626, zp627⟩ := r619
    rw [kv616] at zp626
    rw [kv617] at zp626
    obtain ⟨razp626, rbzp626, rczp626, rdzp626, rezp626, rfzp626⟩ := id zp626
    have kzp626 := pN_ok (T := T) (lo := 1) (hi := 99) (g := (pRdR3 b T g))
    have al628 : pRdR b T g = (pNumb T 1 99 (pRdR3 b T g)) := by rfl
    have zp629 := zp626
    rw [← al628] at zp629
    rw [← al628] at kzp626
    obtain ⟨razp629, rbzp629, rczp629, rdzp629, rezp629, rfzp629⟩ := id zp629
    refine g_istore_n (l' := [(0, .ref 19), (1, .int v594), (2, .int v606), (3, .int v620)]) rfl rfl ?_
    refine g_aload_n rfl ?_
    refine g_gfk (rS_I hI (by omega)) sx_19 rfl (rS_g5 hI) ?_
    refine g_if_ne (fun c630 => ?_) (fun c630 => ?_)
    · exact g_ret ⟨rfl, H, y621, y622, y623, y624, y625, rfl, hI, hJ, (by omega), zp629, hp0, (by unfold bRdR; rw [if_neg (by omega)]; exact hp2), (fun _ _ => rfl)⟩
    · refine g_aload_n rfl ?_
      refine g_gfr (rS_I hI (by omega)) sx_19 rfl ?_
      refine g_iload_n rfl ?_
      refine g_iload_n rfl ?_
      refine g_iload_n rfl ?_
      refine g_invvv (rS_I hI (by omega)) sx_11 rfl rfl rfl rfl (f_15 v594 v606 v620 H hI hJ y621 y622 y623 y624 y625 (by omega) hp2 (by omega)) (fun H631 r632 => ?_)
      obtain ⟨B635, rfl, hIB635, hJB635, zp633, zp634⟩ := r632
      refine g_nop ?_
      exact g_ret ⟨rfl, B635, y621, y622, y623, y624, y625, rfl, hIB635, hJB635, (by omega), zp629, (tk_fr hp0 zp633), (by unfold bRdR; rw [if_pos (by omega)]; exact zp634), zp633⟩
