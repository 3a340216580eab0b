theorem kr_a {K V so va wo : Int} (h : kR K V so va wo) : (K = 4 ∧ so = 0 ∧ va = 0) ∨ (8 ≤ K ∧ K ≤ 17 ∧ so = 0 ∧ va = K - 7) ∨ (¬ (K = 4 ∨ (8 ≤ K ∧ K ≤ 17)) ∧ ¬ (so = 0 ∧ 0 ≤ va ∧ va ≤ 10)) := by
  unfold kR kwR nmR at h
  omega
def pMa (c : pB) (T : pT) (g : pG) : pG := if c.N = 60 then pFail T 2 g else g
theorem ma_ok {c : pB} {T : pT} {g : pG} (h : g.f = 0) : (c.N = 60 ∧ (pMa c T g).f ≠ 0) ∨ (c.N ≠ 60 ∧ (pMa c T g).f = 0) := by
  unfold pMa
  if q : c.N = 60 then
    rw [if_pos q]
    exact Or.inl ⟨q, (pF_ne (by decide)).1⟩
  else
    rw [if_neg q]
    exact Or.inr ⟨q, h⟩
theorem m1_eq {c : pB} {T : pT} {g : pG} (h : T.K g.t = 3) : pM1 c T g = pGn T (pMa c T g) := by
  unfold pM1 pMa
  if q : c.N = 60 then rw [if_pos q, if_pos q, tk_y (by rw [(pF_ne (by decide)).2]; omega)]
  else rw [if_neg q, if_neg q, tk_y (by first | with_reducible assumption | omega)]
def pActW (T : pT) (g : pG) : pG := if g.f = 0 ∧ (T.K g.t = 4 ∨ (8 ≤ T.K g.t ∧ T.K g.t ≤ 17)) then g else pFail T 1 g
theorem ac_eq {T : pT} {g : pG} : pAct T g = pGn T (pActW T g) := by
  unfold pAct pActW
  if q : g.f = 0 ∧ (T.K g.t = 4 ∨ (8 ≤ T.K g.t ∧ T.K g.t ≤ 17)) then
    rw [if_pos q]
    if k : T.K g.t = 4 then rw [if_pos k, tk_y (by first | with_reducible assumption | omega)]
    else rw [if_neg k, tk_y (by first | with_reducible assumption | omega)]
  else
    rw [if_neg q]
    if k : T.K g.t = 4 then rw [if_pos k, tk_n (by first | with_reducible assumption | omega)]
    else rw [if_neg k, tk_n (by first | with_reducible assumption | omega)]
theorem av_eq {T : pT} {g : pG} {v : Int} (hf : g.f = 0) (h : (T.K g.t = 4 ∧ v = 0) ∨ (8 ≤ T.K g.t ∧ T.K g.t ≤ 17 ∧ v = T.K g.t - 7)) : v = pActV T g := by
  unfold pActV
  if k : T.K g.t = 4 then
    rw [if_pos k]
    omega
  else
    rw [if_neg k, tk_y (by first | with_reducible assumption | omega), gn_f, if_neg (fun z => z hf)]
    omega
theorem m5_f {c : pB} {T : pT} {g : pG} (h : (pM4 c T g).f ≠ 0) : pM5 c T g = pM4 c T g := by
  unfold pM5
  rw [pT_no h, ite_self]
theorem m5_n {c : pB} {T : pT} {g : pG} (h : pActV T (pM2 c T g) ≠ 0) : pM5 c T g = pM4 c T g := by
  unfold pM5
  rw [if_neg h]
theorem m5_y {c : pB} {T : pT} {g : pG} (h : pActV T (pM2 c T g) = 0) : pM5 c T g = pTake T 5 7 (pM4 c T g) := by
  unfold pM5
  rw [if_pos h]
theorem sec_no {c : pB} {T : pT} {a : Int} {g : pG} (h : g.f ≠ 0) : pSec c T a g = g := by
  unfold pSec
  rw [pN_0 h, pPlc_no h, ite_self, ite_self]
theorem m6_f {c : pB} {T : pT} {g : pG} (h : (pM5 c T g).f ≠ 0) : pM6 c T g = pM5 c T g := sec_no h
theorem m6_1 {c : pB} {T : pT} {g : pG} (h : pActV T (pM2 c T g) = 1) : pM6 c T g = pNumb T 0 39 (pM5 c T g) := by
  unfold pM6 pSec
  rw [if_pos h]
theorem m6_p {c : pB} {T : pT} {g : pG} (h : pActV T (pM2 c T g) = 0 ∨ pActV T (pM2 c T g) = 5 ∨ pActV T (pM2 c T g) = 6 ∨ pActV T (pM2 c T g) = 8) : pM6 c T g = pPlc c.nm c.P T (-1) (pM5 c T g) := by
  unfold pM6 pSec
  rw [if_neg (by first | with_reducible assumption | omega), if_pos h]
theorem m6_n {c : pB} {T : pT} {g : pG} (h : ¬ pActV T (pM2 c T g) = 1 ∧ ¬ (pActV T (pM2 c T g) = 0 ∨ pActV T (pM2 c T g) = 5 ∨ pActV T (pM2 c T g) = 6 ∨ pActV T (pM2 c T g) = 8)) : pM6 c T g = pM5 c T g := by
  unfold pM6 pSec
  rw [if_neg h.1, if_neg h.2]
theorem sv_1 {c : pB} {T : pT} {a : Int} {g : pG} (h : a = 1) : pSecV c T a g = T.V g.t := by
  unfold pSecV
  rw [if_pos h]
theorem sv_n {c : pB} {T : pT} {a : Int} {g : pG} (h : ¬ a = 1 ∧ ¬ (a = 0 ∨ a = 5 ∨ a = 6 ∨ a = 8)) : pSecV c T a g = -2 := by
  unfold pSecV
  rw [if_neg h.1, if_neg h.2]
theorem sv_p {c : pB} {T : pT} {a : Int} {g : pG} (h : a = 0 ∨ a = 5 ∨ a = 6 ∨ a = 8) : (pPlc c.nm c.P T (-1) g).f ≠ 0 ∨ pSecV c T a g = pPh c T g := by
  rcases rp_ok (c := c) (T := T) (g := g) with q | ⟨_, _, q⟩
  · exact Or.inl q
  · right
    unfold pSecV
    rw [if_neg (by first | with_reducible assumption | omega), if_pos h]
    exact (pl_ph q).2.2.1
theorem kd_mk {c : pB} {T : pT} {g : pG} {d : Int} (h : (pActV T (pM2 c T g) = 0 ∧ d = T.K (pM4 c T g).t - 5) ∨ (pActV T (pM2 c T g) ≠ 0 ∧ d = -1)) : d = if pActV T (pM2 c T g) = 0 then pKn c T g else -1 := by
  unfold pKn
  split <;> omega
theorem nms_mk {H B1 B2 B3 B4 B5 B6 : mzH} {c : pB} {x0 x1 x2 x3 x4 x5 h w f s d v : Int32} {ho ac fi se ki : Int} (hI : gI SM H) (hI1 : gI SM B1) (hI2 : gI SM B2) (hI3 : gI SM B3) (hI4 : gI SM B4) (hI5 : gI SM B5) (hb : bkM H c) (e1 : B1 = sA H 3 x0.toInt.toNat h) (e2 : B2 = sA B1 3 x1.toInt.toNat w) (e3 : B3 = sA B2 3 x2.toInt.toNat f) (e4 : B4 = sA B3 3 x3.toInt.toNat s) (e5 : B5 = sA B4 3 x4.toInt.toNat d) (e6 : B6 = sA B5 3 x5.toInt.toNat v) (hx : x0.toInt = 69 + 5 * c.N ∧ 0 ≤ c.N ∧ c.N < 60) (hx1 : x1.toInt = x0.toInt + 1) (hx2 : x2.toInt = x0.toInt + 2) (hx3 : x3.toInt = x0.toInt + 3) (hx4 : x4.toInt = x0.toInt + 4) (hx5 : x5.toInt = 2) (hv : v.toInt = c.N + 1) (h1 : h.toInt = ho) (h2 : w.toInt = ac) (h3 : f.toInt = fi) (h4 : s.toInt = se) (h5 : d.toInt = if ac = 0 then ki else -1) : bkM B6 (bMs c ho ac fi se ki) := by
  obtain ⟨r, hr⟩ : ∃ r : Nat, r = 69 + 5 * c.N.toNat := ⟨_, rfl⟩
  have a : ∀ j, aZ B6 3 j = if j = 2 then v else if j = r + 4 then d else if j = r + 3 then s else if j = r + 2 then f else if j = r + 1 then w else if j = r then h else aZ H 3 j := fun j => by
    rw [e6, aZ_if hI5 sm_3 (by first | with_reducible assumption | omega) (show x5.toInt.toNat = 2 by omega), e5, aZ_if hI4 sm_3 (by first | with_reducible assumption | omega) (show x4.toInt.toNat = r + 4 by omega), e4, aZ_if hI3 sm_3 (by first | with_reducible assumption | omega) (show x3.toInt.toNat = r + 3 by omega), e3, aZ_if hI2 sm_3 (by first | with_reducible assumption | omega) (show x2.toInt.toNat = r + 2 by omega), e2, aZ_if hI1 sm_3 (by first | with_reducible assumption | omega) (show x1.toInt.toNat = r + 1 by omega), e1, aZ_if hI sm_3 (by first | with_reducible assumption | omega) (show x0.toInt.toNat = r by omega)]
  have no : ∀ j, j ≠ 2 → (j < r ∨ r + 4 < j) → aZ B6 3 j = aZ H 3 j := fun j j2 hj => by rw [a, if_neg j2, if_neg (by first | with_reducible assumption | omega), if_neg (by first | with_reducible assumption | omega), if_neg (by first | with_reducible assumption | omega), if_neg (by first | with_reducible assumption | omega), if_neg (by first | with_reducible assumption | omega)]
  have hj : ((c.N.toNat : Nat) : Int) = c.N := by omega
  obtain ⟨g0, g1, g2, g3, g4, g5, g6, g7, g8⟩ := hb
  refine ⟨?_, ?_, ?_, ?_, ?_, ?_, fun p hp => ?_, fun k hk => ?_, g8⟩
  · rw [no 0 (by decide) (by first | with_reducible assumption | omega)]; exact g0
  · rw [no 1 (by decide) (by first | with_reducible assumption | omega)]; exact g1
  · rw [a, if_pos rfl]; exact hv
  · rw [no 3 (by decide) (by first | with_reducible assumption | omega)]; exact g3
  · rw [no 4 (by decide) (by first | with_reducible assumption | omega)]; exact g4
  · rw [e6, fZ_sA, e5, fZ_sA, e4, fZ_sA, e3, fZ_sA, e2, fZ_sA, e1, fZ_sA]; exact g5
  · rw [e6, aZ_sA_nc (by decide), e5, aZ_sA_nc (by decide), e4, aZ_sA_nc (by decide), e3, aZ_sA_nc (by decide), e2, aZ_sA_nc (by decide), e1, aZ_sA_nc (by decide)]; exact g6 p hp
  · have hk : (k : Int) < c.N + 1 := hk
    refine ⟨up_if hj (fun q => ?_) (fun q => ?_), up_if hj (fun q => ?_) (fun q => ?_), up_if hj (fun q => ?_) (fun q => ?_), up_if hj (fun q => ?_) (fun q => ?_), ?_⟩
    · rw [no _ (by first | with_reducible assumption | omega) (by first | with_reducible assumption | omega)]; exact (g7 k (by first | with_reducible assumption | omega)).1
    · rw [a, if_neg (by first | with_reducible assumption | omega), if_neg (by first | with_reducible assumption | omega), if_neg (by first | with_reducible assumption | omega), if_neg (by first | with_reducible assumption | omega), if_neg (by first | with_reducible assumption | omega), if_pos (by first | with_reducible assumption | omega)]; exact h1
    · rw [no _ (by first | with_reducible assumption | omega) (by first | with_reducible assumption | omega)]; exact (g7 k (by first | with_reducible assumption | omega)).2.1
    · rw [a, if_neg (by first | with_reducible assumption | omega), if_neg (by first | with_reducible assumption | omega), if_neg (by first | with_reducible assumption | omega), if_neg (by first | with_reducible assumption | omega), if_pos (by first | with_reducible assumption | omega)]; exact h2
    · rw [no _ (by first | with_reducible assumption | omega) (by first | with_reducible assumption | omega)]; exact (g7 k (by first | with_reducible assumption | omega)).2.2.1
    · rw [a, if_neg (by first | with_reducible assumption | omega), if_neg (by first | with_reducible assumption | omega), if_neg (by first | with_reducible assumption | omega), if_pos (by first | with_reducible assumption | omega)]; exact h3
    · rw [no _ (by first | with_reducible assumption | omega) (by first | with_reducible assumption | omega)]; exact (g7 k (by first | with_reducible assumption | omega)).2.2.2.1
    · rw [a, if_neg (by first | with_reducible assumption | omega), if_neg (by first | with_reducible assumption | omega), if_pos (by first | with_reducible assumption | omega)]; exact h4
    · show (aZ B6 3 (69 + 5 * k + 4)).toInt = if (if (k : Int) = c.N then ac else c.ac k) = 0 then (if (k : Int) = c.N then ki else c.ki k) else -1
      if q : (k : Int) = c.N then
        rw [if_pos q, if_pos q, a, if_neg (by first | with_reducible assumption | omega), if_pos (by first | with_reducible assumption | omega)]
        exact h5
      else
        rw [if_neg q, if_neg q, no _ (by first | with_reducible assumption | omega) (by first | with_reducible assumption | omega)]
        exact (g7 k (by first | with_reducible assumption | omega)).2.2.2.2
