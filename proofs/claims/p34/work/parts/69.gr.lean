def bMs (b : pB) (h a f s k : Int) : pB := pBm b.P b.R (b.N + 1) b.U b.C b.F b.nm (fun q => if (q : Int) = b.N then h else b.hr q) (fun q => if (q : Int) = b.N then a else b.ac q) (fun q => if (q : Int) = b.N then f else b.fi q) (fun q => if (q : Int) = b.N then s else b.se q) (fun q => if (q : Int) = b.N then k else b.ki q)
theorem frD_6 {H B1 B2 B3 B4 B5 B6 : mzH} {i1 i2 i3 i4 i5 : Nat} {a1 a2 a3 a4 a5 u : Int32} (e1 : B1 = sA H 14 i1 a1) (e2 : B2 = sA B1 15 i2 a2) (e3 : B3 = sA B2 16 i3 a3) (e4 : B4 = sA B3 17 i4 a4) (e5 : B5 = sA B4 18 i5 a5) (e6 : B6 = sF B5 11 9 u) : frD H B6 := fun c h => by rw [e6, c_sF (by first | with_reducible assumption | omega), e5, c_sA (by first | with_reducible assumption | omega), e4, c_sA (by first | with_reducible assumption | omega), e3, c_sA (by first | with_reducible assumption | omega), e2, c_sA (by first | with_reducible assumption | omega), e1, c_sA (by first | with_reducible assumption | omega)]
theorem up_if {x y v : Int} {q : Nat} {n : Int} {j : Nat} (hj : (j : Int) = n) (h : ¬ q = j → x = y) (hv : q = j → x = v) : x = if (q : Int) = n then v else y := by
  split
  · exact hv (by first | with_reducible assumption | omega)
  · exact h (by first | with_reducible assumption | omega)
theorem ams_mk {H B1 B2 B3 B4 B5 B6 : mzH} {b : pB} {i1 i2 i3 i4 i5 a1 a2 a3 a4 a5 u : Int32} (hI : gI SX H) (hI1 : gI SX B1) (hI2 : gI SX B2) (hI3 : gI SX B3) (hI4 : gI SX B4) (hI5 : gI SX B5) (hb : bkX H 11 b) (e1 : B1 = sA H 14 i1.toInt.toNat a1) (e2 : B2 = sA B1 15 i2.toInt.toNat a2) (e3 : B3 = sA B2 16 i3.toInt.toNat a3) (e4 : B4 = sA B3 17 i4.toInt.toNat a4) (e5 : B5 = sA B4 18 i5.toInt.toNat a5) (e6 : B6 = sF B5 11 9 u) (h1 : i1.toInt = b.N ∧ 0 ≤ b.N ∧ b.N < 60) (h2 : i2.toInt = b.N) (h3 : i3.toInt = b.N) (h4 : i4.toInt = b.N) (h5 : i5.toInt = b.N) (hu : u.toInt = b.N + 1) : bkX B6 11 (bMs b a1.toInt a2.toInt a3.toInt a4.toInt a5.toInt) := by
  obtain ⟨g1, g2, g3, g4, g5, g6, g7, g9, g10⟩ := hb
  have ff : ∀ f, f ≠ 9 → fZ B6 11 f = fZ H 11 f := fun f hf => by rw [e6, fZ_sF_ne (Ne.symm hf), e5, fZ_sA, e4, fZ_sA, e3, fZ_sA, e2, fZ_sA, e1, fZ_sA]
  refine ⟨?_, ?_, ?_, ?_, ?_, ?_, fun p hp => ?_, fun k hk => ?_, g10⟩
  · rw [ff 7 (by decide)]; exact g1
  · rw [ff 8 (by decide)]; exact g2
  · rw [e6, fZ_sF_eq hI5 sx_11 rfl]; exact hu
  · rw [ff 10 (by decide)]; exact g4
  · rw [ff 11 (by decide)]; exact g5
  · rw [ff 12 (by decide)]; exact g6
  · rw [e6, aZ_sF, e5, aZ_sA_nc (by decide), e4, aZ_sA_nc (by decide), e3, aZ_sA_nc (by decide), e2, aZ_sA_nc (by decide), e1, aZ_sA_nc (by decide)]
    exact g7 p hp
  · have hk : (k : Int) < b.N + 1 := hk
    have o1 : aZ B6 14 k = if k = b.N.toNat then a1 else aZ H 14 k := by
      rw [e6, aZ_sF, e5, aZ_sA_nc (by decide), e4, aZ_sA_nc (by decide), e3, aZ_sA_nc (by decide), e2, aZ_sA_nc (by decide), e1, aZ_if hI sx_14 (by first | with_reducible assumption | omega) (show _ = b.N.toNat by omega)]
    have o2 : aZ B6 15 k = if k = b.N.toNat then a2 else aZ H 15 k := by
      rw [e6, aZ_sF, e5, aZ_sA_nc (by decide), e4, aZ_sA_nc (by decide), e3, aZ_sA_nc (by decide), e2, aZ_if hI1 sx_15 (by first | with_reducible assumption | omega) (show _ = b.N.toNat by omega), e1, aZ_sA_nc (by decide)]
    have o3 : aZ B6 16 k = if k = b.N.toNat then a3 else aZ H 16 k := by
      rw [e6, aZ_sF, e5, aZ_sA_nc (by decide), e4, aZ_sA_nc (by decide), e3, aZ_if hI2 sx_16 (by first | with_reducible assumption | omega) (show _ = b.N.toNat by omega), e2, aZ_sA_nc (by decide), e1, aZ_sA_nc (by decide)]
    have o4 : aZ B6 17 k = if k = b.N.toNat then a4 else aZ H 17 k := by
      rw [e6, aZ_sF, e5, aZ_sA_nc (by decide), e4, aZ_if hI3 sx_17 (by first | with_reducible assumption | omega) (show _ = b.N.toNat by omega), e3, aZ_sA_nc (by decide), e2, aZ_sA_nc (by decide), e1, aZ_sA_nc (by decide)]
    have o5 : aZ B6 18 k = if k = b.N.toNat then a5 else aZ H 18 k := by
      rw [e6, aZ_sF, e5, aZ_if hI4 sx_18 (by first | with_reducible assumption | omega) (show _ = b.N.toNat by omega), e4, aZ_sA_nc (by decide), e3, aZ_sA_nc (by decide), e2, aZ_sA_nc (by decide), e1, aZ_sA_nc (by decide)]
    have hj : ((b.N.toNat : Nat) : Int) = b.N := by omega
    refine ⟨up_if hj (fun h => ?_) (fun h => ?_), up_if hj (fun h => ?_) (fun h => ?_), up_if hj (fun h => ?_) (fun h => ?_), up_if hj (fun h => ?_) (fun h => ?_), up_if hj (fun h => ?_) (fun h => ?_)⟩
    · rw [show 11 + 3 = 14 from rfl, o1, if_neg h]; exact (g9 k (by first | with_reducible assumption | omega)).1
    · rw [show 11 + 3 = 14 from rfl, o1, if_pos h]
    · rw [show 11 + 4 = 15 from rfl, o2, if_neg h]; exact (g9 k (by first | with_reducible assumption | omega)).2.1
    · rw [show 11 + 4 = 15 from rfl, o2, if_pos h]
    · rw [show 11 + 5 = 16 from rfl, o3, if_neg h]; exact (g9 k (by first | with_reducible assumption | omega)).2.2.1
    · rw [show 11 + 5 = 16 from rfl, o3, if_pos h]
    · rw [show 11 + 6 = 17 from rfl, o4, if_neg h]; exact (g9 k (by first | with_reducible assumption | omega)).2.2.2.1
    · rw [show 11 + 6 = 17 from rfl, o4, if_pos h]
    · rw [show 11 + 7 = 18 from rfl, o5, if_neg h]; exact (g9 k (by first | with_reducible assumption | omega)).2.2.2.2
    · rw [show 11 + 7 = 18 from rfl, o5, if_pos h]
theorem tk_fr {H B : mzH} {T : pT} (h : tkH H T) (f : frD H B) : tkH B T := by
  refine ⟨fun t ht => ?_, ?_⟩
  · rw [aZ_cg (f 21 (by decide)), aZ_cg (f 22 (by decide)), aZ_cg (f 23 (by decide))]
    exact h.1 t ht
  · rw [fZ_cg (f 20 (by decide))]
    exact h.2
def pSec (b : pB) (T : pT) (a : Int) (g : pG) : pG := if a = 1 then pNumb T 0 39 g else if a = 0 ∨ a = 5 ∨ a = 6 ∨ a = 8 then pPlc b.nm b.P T (-1) g else g
def pSecV (b : pB) (T : pT) (a : Int) (g : pG) : Int := if a = 1 then T.V g.t else if a = 0 ∨ a = 5 ∨ a = 6 ∨ a = 8 then pPl b.nm b.P T g else -2
/-! place -/
def pRdP1 (b : pB) (T : pT) (g : pG) : pG := if b.P = 8 then pTake T 0 0 (pFail T 2 g) else pTake T 0 0 g
def pRdP (b : pB) (T : pT) (g : pG) : pG := if T.K (pRdP1 b T g).t = 18 ∧ pNm b.nm (T.V (pRdP1 b T g).t) b.P.toNat ≠ -2 then pTake T 18 18 (pFail T 3 (pRdP1 b T g)) else pTake T 18 18 (pRdP1 b T g)
def bRdP (b : pB) (T : pT) (g : pG) : pB := if (pRdP b T g).f = 0 then bPl b (T.V (pRdP1 b T g).t) else b
/-! road -/
def pRdR1 (b : pB) (T : pT) (g : pG) : pG := if b.R = 12 then pTake T 1 1 (pFail T 2 g) else pTake T 1 1 g
def pRdR2 (b : pB) (T : pT) (g : pG) : pG := pPlc b.nm b.P T (-1) (pRdR1 b T g)
def pRdR3 (b : pB) (T : pT) (g : pG) : pG := pPlc b.nm b.P T (pPl b.nm b.P T (pRdR1 b T g)) (pRdR2 b T g)
def pRdR (b : pB) (T : pT) (g : pG) : pG := pNumb T 1 99 (pRdR3 b T g)
def bRdR (b : pB) (T : pT) (g : pG) : pB := if (pRdR b T g).f = 0 then bRd b else b
set_option maxRecDepth 4000 in
set_option maxHeartbeats 4000000 in
/-- X4.takeSecond, exactly -/
theorem f_47 (a1 : Int32) (ha1 : 0 ≤ a1.toInt ∧ a1.toInt ≤ 10) (H : mzH) (hI : gI SX H) (hJ : JX H) (x0 x1 x2 x3 x4 : Int32) (hx0 : 0 ≤ x0.toInt ∧ x0.toInt ≤ 900) {T : pT} {g : pG} {b : pB} (hp0 : tkH H T) (hp1 : rdX T g x0 x1 x2 x3 x4) (hp2 : bkX H 11 b) : gCall 47 [.ref 19, .int a1] (rS H x0 x1 x2 x3 x4) (gRi (fun v H' => ∃ y0 y1 y2 y3 y4 : Int32, H' = rS H y0 y1 y2 y3 y4 ∧ (0 ≤ y0.toInt ∧ y0.toInt ≤ 900) ∧ rdX T (pSec b T a1.toInt g) y0 y1 y2 y3 y4 ∧ v.toInt = pSecV b T a1.toInt g ∧ ((pSec b T a1.toInt g).f ≠ 0 ∨ ((pSec b T a1.toInt g).f = 0 ∧ g.f = 0 ∧ -2 ≤ v.toInt ∧ v.toInt ≤ 39 ∧ (a1.toInt = 1 → 0 ≤ v.toInt))))) := by
  obtain ⟨r0, r1, r2, r3, r4, r5⟩ := id hp1
  have w0 := hp0.2
  refine gG_call [(0, .ref 19), (1, .int a1)] ⟨rfl, rfl, trivial⟩ ?_
  show gG 2 zB_47 (mzBlk zB_47 0) [(0, .ref 19), (1, .int a1)] [] (rS H x0 x1 x2 x3 x4) 0 0 _
  refine g_iload_n rfl ?_
  refine g_sw (by decide) (fun c249 => ?_) ⟨fun c249 => ?_, fun c249 => ?_, fun c249 => ?_, fun c249 => ?_, fun c249 => ?_, fun c249 => ?_, fun c249 => ?_, fun c249 => ?_, fun c249 => ?_, trivial⟩
  · refine g_bipush (by decide) (fun v250 kv250 => ?_)
    exact g_iret ⟨_, rfl, x0, x1, x2, x3, x4, rfl, (by first | with_reducible assumption | omega), (by unfold pSec; first | (rw [if_pos (by first | with_reducible assumption | omega)]; exact hp1) | (rw [if_neg (by first | with_reducible assumption | omega), if_pos (by first | with_reducible assumption | omega)]; exact hp1) | (rw [if_neg (by first | with_reducible assumption | omega), if_neg (by first | with_reducible assumption | omega)]; exact hp1)), (by unfold pSecV; first | (rw [if_pos (by first | with_reducible assumption | omega)]; exact kv250) | (rw [if_neg (by first | with_reducible assumption | omega), if_pos (by first | with_reducible assumption | omega)]; exact kv250) | (rw [if_neg (by first | with_reducible assumption | omega), if_neg (by first | with_reducible assumption | omega)]; exact kv250)), (by unfold pSec; first | (rw [if_pos (by first | with_reducible assumption | omega)]; omega) | (rw [if_neg (by first | with_reducible assumption | omega), if_pos (by first | with_reducible assumption | omega)]; omega) | (rw [if_neg (by first | with_reducible assumption | omega), if_neg (by first | with_reducible assumption | omega)]; omega))⟩
  · refine g_aload_n rfl ?_
    refine g_iconst (by decide) (fun v251 kv251 => ?_)
    refine g_invvi (rS_I hI (by first | with_reducible assumption | omega)) sx_19 rfl rfl rfl rfl (f_49 v251 H hI hJ x0 x1 x2 x3 x4 (by first | with_reducible assumption | omega) hp0 hp1 hp2) (fun v254 H252 r253 => ?_)
    obtain ⟨y255, y256, y257, y258, y259, rfl, bv254, by255, zp260, zp261⟩ := r253
    rw [kv251] at zp260
    obtain ⟨razp260, rbzp260, rczp260, rdzp260, rezp260, rfzp260⟩ := id zp260
    have kzp260 := pP_ok (nm := b.nm) (P := b.P) (T := T) (but := -1) (g := g)
    exact g_iret ⟨_, rfl, y255, y256, y257, y258, y259, rfl, (by first | with_reducible assumption | omega), (by unfold pSec; first | (rw [if_pos (by first | with_reducible assumption | omega)]; exact zp260) | (rw [if_neg (by first | with_reducible assumption | omega), if_pos (by first | with_reducible assumption | omega)]; exact zp260) | (rw [if_neg (by first | with_reducible assumption | omega), if_neg (by first | with_reducible assumption | omega)]; exact zp260)), (by unfold pSecV; first | (rw [if_pos (by first | with_reducible assumption | omega)]; exact zp261) | (rw [if_neg (by first | with_reducible assumption | omega), if_pos (by first | with_reducible assumption | omega)]; exact zp261) | (rw [if_neg (by first | with_reducible assumption | omega), if_neg (by first | with_reducible assumption | omega)]; exact zp261)), (by unfold pSec; first | (rw [if_pos (by first | with_reducible assumption | omega)]; omega) | (rw [if_neg (by first | with_reducible assumption | omega), if_pos (by first | with_reducible assumption | omega)]; omega) | (rw [if_neg (by first | with_reducible assumption | omega), if_neg (by first | with_reducible assumption | omega)]; omega))⟩
  · refine g_aload_n rfl ?_
    refine g_iconst (by decide) (fun v262 kv262 => ?_)
    refine g_bipush (by decide) (fun v263 kv263 => ?_)
    refine g_invvi (rS_I hI (by first | with_reducible assumption | omega)) sx_19 rfl rfl rfl rfl (f_48 v262 v263 H hI hJ x0 x1 x2 x3 x4 (by first | with_reducible assumption | omega) hp0 hp1) (fun v266 H264 r265 => ?_)
    obtain ⟨y267, y268, y269, y270, y271, rfl, by267, zp272, zp273⟩ := r265
    rw [kv262] at zp272
    rw [kv263] at zp272
    obtain ⟨razp272, rbzp272, rczp272, rdzp272, rezp272, rfzp272⟩ := id zp272
    have kzp272 := pN_ok (T := T) (lo := 0) (hi := 39) (g := g)
    exact g_iret ⟨_, rfl, y267, y268, y269, y270, y271, rfl, (by first | with_reducible assumption | omega), (by unfold pSec; first | (rw [if_pos (by first | with_reducible assumption | omega)]; exact zp272) | (rw [if_neg (by first | with_reducible assumption | omega), if_pos (by first | with_reducible assumption | omega)]; exact zp272) | (rw [if_neg (by first | with_reducible assumption | omega), if_neg (by first | with_reducible assumption | omega)]; exact zp272)), (by unfold pSecV; first | (rw [if_pos (by first | with_reducible assumption | omega)]; exact zp273) | (rw [if_neg (by first | with_reducible assumption | omega), if_pos (by first | with_reducible assumption | omega)]; exact zp273) | (rw [if_neg (by first | with_reducible assumption | omega), if_neg (by first | with_reducible assumption | omega)]; exact zp273)), (by unfold pSec; first | (rw [if_pos (by first | with_reducible assumption | omega)]; omega) | (rw [if_neg (by first | with_reducible assumption | omega), if_pos (by first | with_reducible assumption | omega)]; omega) | (rw [if_neg (by first | with_reducible assumption | omega), if_neg (by first | with_reducible assumption | omega)]; omega))⟩
  · refine g_bipush (by decide) (fun v274 kv274 => ?_)
    exact g_iret ⟨_, rfl, x0, x1, x2, x3, x4, rfl, (by first | with_reducible assumption | omega), (by unfold pSec; first | (rw [if_pos (by first | with_reducible assumption | omega)]; exact hp1) | (rw [if_neg (by first | with_reducible assumption | omega), if_pos (by first | with_reducible assumption | omega)]; exact hp1) | (rw [if_neg (by first | with_reducible assumption | omega), if_neg (by first | with_reducible assumption | omega)]; exact hp1)), (by unfold pSecV; first | (rw [if_pos (by first | with_reducible assumption | omega)]; exact kv274) | (rw [if_neg (by first | with_reducible assumption | omega), if_pos (by first | with_reducible assumption | omega)]; exact kv274) | (rw [if_neg (by first | with_reducible assumption | omega), if_neg (by first | with_reducible assumption | omega)]; exact kv274)), (by unfold pSec; first | (rw [if_pos (by first | with_reducible assumption | omega)]; omega) | (rw [if_neg (by first | with_reducible assumption | omega), if_pos (by first | with_reducible assumption | omega)]; omega) | (rw [if_neg (by first | with_reducible assumption | omega), if_neg (by first | with_reducible assumption | omega)]; omega))⟩
  · refine g_bipush (by decide) (fun v275 kv275 => ?_)
    exact g_iret ⟨_, rfl, x0, x1, x2, x3, x4, rfl, (by first | with_reducible assumption | omega), (by unfold pSec; first | (rw [if_pos (by first | with_reducible assumption | omega)]; exact hp1) | (rw [if_neg (by first | with_reducible assumption | omega), if_pos (by first | with_reducible assumption | omega)]; exact hp1) | (rw [if_neg (by first | with_reducible assumption | omega), if_neg (by first | with_reducible assumption | omega)]; exact hp1)), (by unfold pSecV; first | (rw [if_pos (by first | with_reducible assumption | omega)]; exact kv275) | (rw [if_neg (by first | with_reducible assumption | omega), if_pos (by first | with_reducible assumption | omega)]; exact kv275) | (rw [if_neg (by first | with_reducible assumption | omega), if_neg (by first | with_reducible assumption | omega)]; exact kv275)), (by unfold pSec; first | (rw [if_pos (by first | with_reducible assumption | omega)]; omega) | (rw [if_neg (by first | with_reducible assumption | omega), if_pos (by first | with_reducible assumption | omega)]; omega) | (rw [if_neg (by first | with_reducible assumption | omega), if_neg (by first | with_reducible assumption | omega)]; omega))⟩
  · refine g_bipush (by decide) (fun v276 kv276 => ?_)
    exact g_iret ⟨_, rfl, x0, x1, x2, x3, x4, rfl, (by first | with_reducible assumption | omega), (by unfold pSec; first | (rw [if_pos (by first | with_reducible assumption | omega)]; exact hp1) | (rw [if_neg (by first | with_reducible assumption | omega), if_pos (by first | with_reducible assumption | omega)]; exact hp1) | (rw [if_neg (by first | with_reducible assumption | omega), if_neg (by first | with_reducible assumption | omega)]; exact hp1)), (by unfold pSecV; first | (rw [if_pos (by first | with_reducible assumption | omega)]; exact kv276) | (rw [if_neg (by first | with_reducible assumption | omega), if_pos (by first | with_reducible assumption | omega)]; exact kv276) | (rw [if_neg (by first | with_reducible assumption | omega), if_neg (by first | with_reducible assumption | omega)]; exact kv276)), (by unfold pSec; first | (rw [if_pos (by first | with_reducible assumption | omega)]; omega) | (rw [if_neg (by first | with_reducible assumption | omega), if_pos (by first | with_reducible assumption | omega)]; omega) | (rw [if_neg (by first | with_reducible assumption | omega), if_neg (by first | with_reducible assumption | omega)]; omega))⟩
  · refine g_aload_n rfl ?_
    refine g_iconst (by decide) (fun v277 kv277 => ?_)
    refine g_invvi (rS_I hI (by first | with_reducible assumption | omega)) sx_19 rfl rfl rfl rfl (f_49 v277 H hI hJ x0 x1 x2 x3 x4 (by first | with_reducible assumption | omega) hp0 hp1 hp2) (fun v280 H278 r279 => ?_)
    obtain ⟨y281, y282, y283, y284, y285, rfl, bv280, by281, zp286, zp287⟩ := r279
    rw [kv277] at zp286
    obtain ⟨razp286, rbzp286, rczp286, rdzp286, rezp286, rfzp286⟩ := id zp286
    have kzp286 := pP_ok (nm := b.nm) (P := b.P) (T := T) (but := -1) (g := g)
    exact g_iret ⟨_, rfl, y281, y282, y283, y284, y285, rfl, (by first | with_reducible assumption | omega), (by unfold pSec; first | (rw [if_pos (by first | with_reducible assumption | omega)]; exact zp286) | (rw [if_neg (by first | with_reducible assumption | omega), if_pos (by first | with_reducible assumption | omega)]; exact zp286) | (rw [if_neg (by first | with_reducible assumption | omega), if_neg (by first | with_reducible assumption | omega)]; exact zp286)), (by unfold pSecV; first | (rw [if_pos (by first | with_reducible assumption | omega)]; exact zp287) | (rw [if_neg (by first | with_reducible assumption | omega), if_pos (by first | with_reducible assumption | omega)]; exact zp287) | (rw [if_neg (by first | with_reducible assumption | omega), if_neg (by first | with_reducible assumption | omega)]; exact zp287)), (by unfold pSec; first | (rw [if_pos (by first | with_reducible assumption | omega)]; omega) | (rw [if_neg (by first | with_reducible assumption | omega), if_pos (by first | with_reducible assumption | omega)]; omega) | (rw [if_neg (by first | with_reducible assumption | omega), if_neg (by first | with_reducible assumption | omega)]; omega))⟩
  · refine g_aload_n rfl ?_
    refine g_iconst (by decide) (fun v288 kv288 => ?_)
    refine g_invvi (rS_I hI (by first | with_reducible assumption | omega)) sx_19 rfl rfl rfl rfl (f_49 v288 H hI hJ x0 x1 x2 x3 x4 (by first | with_reducible assumption | omega) hp0 hp1 hp2) (fun v291 H289 r290 => ?_)
    obtain ⟨y292, y293, y294, y295, y296, rfl, bv291, by292, zp297, zp298⟩ := r290
    rw [kv288] at zp297
    obtain ⟨razp297, rbzp297, rczp297, rdzp297, rezp297, rfzp297⟩ := id zp297
    have kzp297 := pP_ok (nm := b.nm) (P := b.P) (T := T) (but := -1) (g := g)
    exact g_iret ⟨_, rfl, y292, y293, y294, y295, y296, rfl, (by first | with_reducible assumption | omega), (by unfold pSec; first | (rw [if_pos (by first | with_reducible assumption | omega)]; exact zp297) | (rw [if_neg (by first | with_reducible assumption | omega), if_pos (by first | with_reducible assumption | omega)]; exact zp297) | (rw [if_neg (by first | with_reducible assumption | omega), if_neg (by first | with_reducible assumption | omega)]; exact zp297)), (by unfold pSecV; first | (rw [if_pos (by first | with_reducible assumption | omega)]; exact zp298) | (rw [if_neg (by first | with_reducible assumption | omega), if_pos (by first | with_reducible assumption | omega)]; exact zp298) | (rw [if_neg (by first | with_reducible assumption | omega), if_neg (by first | with_reducible assumption | omega)]; exact zp298)), (by unfold pSec; first | (rw [if_pos (by first | with_reducible assumption | omega)]; omega) | (rw [if_neg (by first | with_reducible assumption | omega), if_pos (by first | with_reducible assumption | omega)]; omega) | (rw [if_neg (by first | with_reducible assumption | omega), if_neg (by first | with_reducible assumption | omega)]; omega))⟩
  · refine g_bipush (by decide) (fun v299 kv299 => ?_)
    exact g_iret ⟨_, rfl, x0, x1, x2, x3, x4, rfl, (by first | with_reducible assumption | omega), (by unfold pSec; first | (rw [if_pos (by first | with_reducible assumption | omega)]; exact hp1) | (rw [if_neg (by first | with_reducible assumption | omega), if_pos (by first | with_reducible assumption | omega)]; exact hp1) | (rw [if_neg (by first | with_reducible assumption | omega), if_neg (by first | with_reducible assumption | omega)]; exact hp1)), (by unfold pSecV; first | (rw [if_pos (by first | with_reducible assumption | omega)]; exact kv299) | (rw [if_neg (by first | with_reducible assumption | omega), if_pos (by first | with_reducible assumption | omega)]; exact kv299) | (rw [if_neg (by first | with_reducible assumption | omega), if_neg (by first | with_reducible assumption | omega)]; exact kv299)), (by unfold pSec; first | (rw [if_pos (by first | with_reducible assumption | omega)]; omega) | (rw [if_neg (by first | with_reducible assumption | omega), if_pos (by first | with_reducible assumption | omega)]; omega) | (rw [if_neg (by first | with_reducible assumption | omega), if_neg (by first | with_reducible assumption | omega)]; omega))⟩
  · refine g_aload_n rfl ?_
    refine g_iconst (by decide) (fun v300 kv300 => ?_)
    refine g_invvi (rS_I hI (by first | with_reducible assumption | omega)) sx_19 rfl rfl rfl rfl (f_49 v300 H hI hJ x0 x1 x2 x3 x4 (by first | with_reducible assumption | omega) hp0 hp1 hp2) (fun v303 H301 r302 => ?_)
    obtain ⟨y304, y305, y306, y307, y308, rfl, bv303, by304, zp309, zp310⟩ := r302
    rw [kv300] at zp309
    obtain ⟨razp309, rbzp309, rczp309, rdzp309, rezp309, rfzp309⟩ := id zp309
    have kzp309 := pP_ok (nm := b.nm) (P := b.P) (T := T) (but := -1) (g := g)
    exact g_iret ⟨_, rfl, y304, y305, y306, y307, y308, rfl, (by first | with_reducible assumption | omega), (by unfold pSec; first | (rw [if_pos (by first | with_reducible assumption | omega)]; exact zp309) | (rw [if_neg (by first | with_reducible assumption | omega), if_pos (by first | with_reducible assumption | omega)]; exact zp309) | (rw [if_neg (by first | with_reducible assumption | omega), if_neg (by first | with_reducible assumption | omega)]; exact zp309)), (by unfold pSecV; first | (rw [if_pos (by first | with_reducible assumption | omega)]; exact zp310) | (rw [if_neg (by first | with_reducible assumption | omega), if_pos (by first | with_reducible assumption | omega)]; exact zp310) | (rw [if_neg (by first | with_reducible assumption | omega), if_neg (by first | with_reducible assumption | omega)]; exact zp310)), (by unfold pSec; first | (rw [if_pos (by first | with_reducible assumption | omega)]; omega) | (rw [if_neg (by first | with_reducible assumption | omega), if_pos (by first | with_reducible assumption | omega)]; omega) | (rw [if_neg (by first | with_reducible assumption | omega), if_neg (by first | with_reducible assumption | omega)]; omega))⟩
