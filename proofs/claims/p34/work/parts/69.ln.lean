theorem pA_ok {T : pT} {g : pG} : (pAct T g).f ≠ 0 ∨ ((pAct T g).f = 0 ∧ g.f = 0) := by
  unfold pAct
  split
  · rcases pT_ok (T := T) (lo := 4) (hi := 4) (g := g) with h | ⟨h0, h1, _⟩
    · exact Or.inl h
    · exact Or.inr ⟨h0, h1⟩
  · rcases pT_ok (T := T) (lo := 8) (hi := 17) (g := g) with h | ⟨h0, h1, _⟩
    · exact Or.inl h
    · exact Or.inr ⟨h0, h1⟩
def bFt (b : pB) (u c : Int) : pB := pBm b.P b.R b.N u c 1 b.nm b.hr b.ac b.fi b.se b.ki
theorem frD_f {H B1 B2 B3 : mzH} {u c t : Int32} (e1 : B1 = sF H 11 10 u) (e2 : B2 = sF B1 11 11 c) (e3 : B3 = sF B2 11 12 t) : frD H B3 := fun q h => by rw [e3, c_sF (by first | with_reducible assumption | omega), e2, c_sF (by first | with_reducible assumption | omega), e1, c_sF (by first | with_reducible assumption | omega)]
theorem bft_mk {H B1 B2 B3 : mzH} {b : pB} {u c t : Int32} (hI : gI SX H) (hI1 : gI SX B1) (hI2 : gI SX B2) (hb : bkX H 11 b) (e1 : B1 = sF H 11 10 u) (e2 : B2 = sF B1 11 11 c) (e3 : B3 = sF B2 11 12 t) (ht : t.toInt = 1) : bkX B3 11 (bFt b u.toInt c.toInt) := by
  obtain ⟨g1, g2, g3, g4, g5, g6, g7, g9, g10⟩ := hb
  have ff : ∀ f, f ≠ 10 → f ≠ 11 → f ≠ 12 → fZ B3 11 f = fZ H 11 f := fun f h1 h2 h3 => by rw [e3, fZ_sF_ne (Ne.symm h3), e2, fZ_sF_ne (Ne.symm h2), e1, fZ_sF_ne (Ne.symm h1)]
  have aa : ∀ c i, aZ B3 c i = aZ H c i := fun c i => by rw [e3, aZ_sF, e2, aZ_sF, e1, aZ_sF]
  refine ⟨?_, ?_, ?_, ?_, ?_, ?_, fun p hp => ?_, fun k hk => ?_, g10⟩
  · rw [ff 7 (by decide) (by decide) (by decide)]; exact g1
  · rw [ff 8 (by decide) (by decide) (by decide)]; exact g2
  · rw [ff 9 (by decide) (by decide) (by decide)]; exact g3
  · rw [e3, fZ_sF_ne (by decide), e2, fZ_sF_ne (by decide), e1, fZ_sF_eq hI sx_11 rfl]; rfl
  · rw [e3, fZ_sF_ne (by decide), e2, fZ_sF_eq hI1 sx_11 rfl]; rfl
  · rw [e3, fZ_sF_eq hI2 sx_11 rfl]; exact ht
  · rw [aa]; exact g7 p hp
  · rw [aa, aa, aa, aa, aa]; exact g9 k hk
/-! fits -/
def pRdF1 (b : pB) (T : pT) (g : pG) : pG := if b.F ≠ 0 then pTake T 2 2 (pFail T 3 g) else pTake T 2 2 g
def pRdF2 (b : pB) (T : pT) (g : pG) : pG := pNumb T 1 20 (pRdF1 b T g)
def pRdF (b : pB) (T : pT) (g : pG) : pG := pNumb T 1 20 (pRdF2 b T g)
def bRdF (b : pB) (T : pT) (g : pG) : pB := if (pRdF b T g).f = 0 then bFt b (T.V (pRdF1 b T g).t) (T.V (pRdF2 b T g).t) else b
/-! messages -/
def pM1 (b : pB) (T : pT) (g : pG) : pG := if b.N = 60 then pTake T 3 3 (pFail T 2 g) else pTake T 3 3 g
def pM2 (b : pB) (T : pT) (g : pG) : pG := pNumb T 0 999 (pM1 b T g)
def pM3 (b : pB) (T : pT) (g : pG) : pG := pAct T (pM2 b T g)
def pM4 (b : pB) (T : pT) (g : pG) : pG := pNumb T 0 39 (pM3 b T g)
def pM5 (b : pB) (T : pT) (g : pG) : pG := if pActV T (pM2 b T g) = 0 then pTake T 5 7 (pM4 b T g) else pM4 b T g
def pM6 (b : pB) (T : pT) (g : pG) : pG := pSec b T (pActV T (pM2 b T g)) (pM5 b T g)
def pKn (b : pB) (T : pT) (g : pG) : Int := if pActV T (pM2 b T g) = 0 then T.K (pM4 b T g).t - 5 else 0
def bMg (b : pB) (T : pT) (g : pG) : pB := if (pM6 b T g).f = 0 then bMs b (T.V (pM1 b T g).t) (pActV T (pM2 b T g)) (T.V (pM3 b T g).t) (pSecV b T (pActV T (pM2 b T g)) (pM5 b T g)) (pKn b T g) else b
/-! a line -/
def pLn1 (b : pB) (T : pT) (g : pG) : pG := if T.K g.t = 0 then pRdP b T g else if T.K g.t = 1 then pRdR b T g else if T.K g.t = 2 then pRdF b T g else if T.K g.t = 3 then pM6 b T g else pFail T 1 g
def bLn (b : pB) (T : pT) (g : pG) : pB := if T.K g.t = 0 then bRdP b T g else if T.K g.t = 1 then bRdR b T g else if T.K g.t = 2 then bRdF b T g else if T.K g.t = 3 then bMg b T g else b
def pLn (b : pB) (T : pT) (g : pG) : pG := pTake T 20 20 (pLn1 b T g)
