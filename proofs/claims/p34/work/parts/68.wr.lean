/-- but for the draft all is as it was -/
def frD (H B : mzH) : Prop := ∀ c, (c < 11 ∨ 18 < c) → B[c]? = H[c]?
def frW (H B : mzH) : Prop := ∀ c, c ≠ 13 → B[c]? = H[c]?
theorem frD_3 {H B1 B2 B3 : mzH} {i j : Nat} {w z u : Int32} (e1 : B1 = sA H 12 i w) (e2 : B2 = sA B1 13 j z) (e3 : B3 = sF B2 11 7 u) : frD H B3 := fun c h => by rw [e3, c_sF (by first | with_reducible assumption | omega), e2, c_sA (by first | with_reducible assumption | omega), e1, c_sA (by first | with_reducible assumption | omega)]
theorem frW_1 {H B : mzH} {i : Nat} {w : Int32} (e : B = sA H 13 i w) : frW H B := fun c h => by rw [e, c_sA h]
theorem frD_r {H B1 B2 B3 : mzH} {u : Int32} (h1 : frW H B1) (h2 : frW B1 B2) (e : B3 = sF B2 11 8 u) : frD H B3 := fun c h => by rw [e, c_sF (by first | with_reducible assumption | omega), h2 c (by first | with_reducible assumption | omega), h1 c (by first | with_reducible assumption | omega)]
def bPl (b : pB) (w : Int) : pB := pBm (b.P + 1) b.R b.N b.U b.C b.F (fun p => if (p : Int) = b.P then w else b.nm p) b.hr b.ac b.fi b.se b.ki
def bRd (b : pB) : pB := pBm b.P (b.R + 1) b.N b.U b.C b.F b.nm b.hr b.ac b.fi b.se b.ki
theorem apl_mk {H B1 B2 B3 : mzH} {b : pB} {i j w z u : Int32} (hI : gI SX H) (hI1 : gI SX B1) (hI2 : gI SX B2) (hb : bkX H 11 b) (e1 : B1 = sA H 12 i.toInt.toNat w) (e2 : B2 = sA B1 13 j.toInt.toNat z) (e3 : B3 = sF B2 11 7 u) (hi : i.toInt = b.P) (h8 : 0 ≤ b.P ∧ b.P < 8) (hu : u.toInt = b.P + 1) : bkX B3 11 (bPl b w.toInt) := by
  obtain ⟨h1, h2, h3, h4, h5, h6, h7, h9, h10⟩ := hb
  refine ⟨?_, ?_, ?_, ?_, ?_, ?_, fun p hp => ?_, fun k hk => ?_, h10⟩
  · rw [e3, fZ_sF_eq hI2 sx_11 rfl]
    exact hu
  · rw [e3, fZ_sF_ne (by decide), e2, fZ_sA, e1, fZ_sA]
    exact h2
  · rw [e3, fZ_sF_ne (by decide), e2, fZ_sA, e1, fZ_sA]
    exact h3
  · rw [e3, fZ_sF_ne (by decide), e2, fZ_sA, e1, fZ_sA]
    exact h4
  · rw [e3, fZ_sF_ne (by decide), e2, fZ_sA, e1, fZ_sA]
    exact h5
  · rw [e3, fZ_sF_ne (by decide), e2, fZ_sA, e1, fZ_sA]
    exact h6
  · rw [e3, aZ_sF, e2, aZ_sA_nc (by decide), e1, aZ_if hI sx_12 (by first | with_reducible assumption | omega) (show _ = b.P.toNat by omega)]
    have hp : (p : Int) < b.P + 1 := hp
    show _ = if (p : Int) = b.P then w.toInt else b.nm p
    split
    · rw [if_pos (by first | with_reducible assumption | omega)]
    · rw [if_neg (by first | with_reducible assumption | omega)]
      exact h7 p (by first | with_reducible assumption | omega)
  · rw [e3, aZ_sF, aZ_sF, aZ_sF, aZ_sF, aZ_sF, e2, aZ_sA_nc (by decide), aZ_sA_nc (by decide), aZ_sA_nc (by decide), aZ_sA_nc (by decide), aZ_sA_nc (by decide), e1, aZ_sA_nc (by decide), aZ_sA_nc (by decide), aZ_sA_nc (by decide), aZ_sA_nc (by decide), aZ_sA_nc (by decide)]
    exact h9 k hk
theorem ard_r {H B1 B2 : mzH} (h1 : frW H B1) (h2 : frW B1 B2) : (fZ B2 11 8).toInt = (fZ H 11 8).toInt := by rw [fZ_cg (h2 11 (by decide)), fZ_cg (h1 11 (by decide))]
theorem ard_mk {H B1 B2 B3 : mzH} {b : pB} {u : Int32} (hI2 : gI SX B2) (hb : bkX H 11 b) (f1 : frW H B1) (f2 : frW B1 B2) (e3 : B3 = sF B2 11 8 u) (hu : u.toInt = b.R + 1 ∧ b.R < 12) : bkX B3 11 (bRd b) := by
  obtain ⟨h1, h2, h3, h4, h5, h6, h7, h9, h10⟩ := hb
  have fr : ∀ c, c ≠ 13 → B2[c]? = H[c]? := fun c h => (f2 c h).trans (f1 c h)
  refine ⟨?_, ?_, ?_, ?_, ?_, ?_, fun p hp => ?_, fun k hk => ?_, ?_⟩
  · rw [e3, fZ_sF_ne (by decide), fZ_cg (fr 11 (by decide))]
    exact h1
  · rw [e3, fZ_sF_eq hI2 sx_11 rfl]
    exact hu.1
  · rw [e3, fZ_sF_ne (by decide), fZ_cg (fr 11 (by decide))]
    exact h3
  · rw [e3, fZ_sF_ne (by decide), fZ_cg (fr 11 (by decide))]
    exact h4
  · rw [e3, fZ_sF_ne (by decide), fZ_cg (fr 11 (by decide))]
    exact h5
  · rw [e3, fZ_sF_ne (by decide), fZ_cg (fr 11 (by decide))]
    exact h6
  · rw [e3, aZ_sF, aZ_cg (fr 12 (by decide))]
    exact h7 p hp
  · rw [e3, aZ_sF, aZ_sF, aZ_sF, aZ_sF, aZ_sF, aZ_cg (fr 14 (by decide)), aZ_cg (fr 15 (by decide)), aZ_cg (fr 16 (by decide)), aZ_cg (fr 17 (by decide)), aZ_cg (fr 18 (by decide))]
    exact h9 k hk
  · show 0 ≤ b.R + 1 ∧ b.R + 1 ≤ 12
    omega
