/-! THE BOOK IN ORDER -/
/-- the hours told are hours -/
def hrB (b : pB) : Prop := ∀ k : Nat, (k : Int) < b.N → 0 ≤ b.hr k ∧ b.hr k ≤ 999
theorem pT_z {T : pT} {lo hi : Int} {g : pG} (h : (pTake T lo hi g).f = 0) : lo ≤ T.K g.t ∧ T.K g.t ≤ hi := by
  unfold pTake at h
  if c : T.K g.t < lo ∨ hi < T.K g.t then
    rw [if_pos c] at h
    exact absurd h (pF_ne (by decide)).1
  else omega
theorem pN_z {T : pT} {lo hi : Int} {g : pG} (h : (pNumb T lo hi g).f = 0) : lo ≤ T.V g.t ∧ T.V g.t ≤ hi := by
  unfold pNumb at h
  if c : T.K g.t = 19 ∧ (T.V g.t < lo ∨ hi < T.V g.t) then
    rw [if_pos c] at h
    exact absurd (pq_T h).1 (pF_ne (by decide)).1
  else
    rw [if_neg c] at h
    have := pT_z h
    omega
theorem m6_2 {b : pB} {T : pT} {g : pG} (h : (pM6 b T g).f = 0) : (pM2 b T g).f = 0 := by
  have h5 : pq (pM2 b T g) (pM5 b T g) := by
    have h4 : pq (pM2 b T g) (pM4 b T g) := pq_t pq_A pq_N
    unfold pM5
    split
    · exact pq_t h4 pq_T
    · exact h4
  exact (pq_t h5 pq_S h).1
theorem hrB_0 : hrB pB0 := fun k hk => by
  have hk : (k : Int) < 0 := hk
  omega
theorem hrB_L {b : pB} {T : pT} {g : pG} (h : hrB b) : hrB (bLn b T g) := by
  unfold bLn
  split
  · unfold bRdP
    split
    · exact h
    · exact h
  · split
    · unfold bRdR
      split
      · exact h
      · exact h
    · split
      · unfold bRdF
        split
        · exact h
        · exact h
      · split
        · unfold bMg
          split
          · rename_i z
            have := pN_z (m6_2 z)
            intro k hk
            show 0 ≤ (if (k : Int) = b.N then T.V (pM1 b T g).t else b.hr k) ∧ (if (k : Int) = b.N then T.V (pM1 b T g).t else b.hr k) ≤ 999
            have hk : (k : Int) < b.N + 1 := hk
            if e : (k : Int) = b.N then
              rw [if_pos e]
              exact this
            else
              rw [if_neg e]
              exact h k (by omega)
          · exact h
        · exact h
theorem hrB_I {told : Int} {T : pT} {b : pB} (h : hrB b) : ∀ n, hrB (pIt told T n b).1
  | 0 => h
  | n + 1 => hrB_L (hrB_I h n)
/-- a message of a book is in order -/
def bOk (b : pB) : Prop := (0 ≤ b.N ∧ b.N ≤ 60) ∧ (0 ≤ b.P ∧ b.P ≤ 8) ∧ ∀ k : Nat, (k : Int) < b.N → (0 ≤ b.ac k ∧ b.ac k ≤ 10) ∧ (0 ≤ b.fi k ∧ b.fi k < 40) ∧ (b.ac k = 1 → 0 ≤ b.se k ∧ b.se k < 40) ∧ ((b.ac k = 0 ∨ b.ac k = 5 ∨ b.ac k = 6 ∨ b.ac k = 8) → 0 ≤ b.se k ∧ b.se k < 8) ∧ (0 ≤ b.hr k ∧ b.hr k ≤ 999) ∧ (b.ac k = 0 → 0 ≤ b.ki k ∧ b.ki k ≤ 2)
theorem bOk_of {H : mzH} {b : pB} (hJ : JN H) (h : bkW H b) (hh : hrB b) : bOk b := by
  obtain ⟨⟨w0, w2, w⟩, _⟩ := hJ
  obtain ⟨e0, _, e2, _, _, _, _, e, _⟩ := h
  refine ⟨by omega, by omega, fun k hk => ?_⟩
  obtain ⟨f0, f1, f2, f3, f4⟩ := e k hk
  obtain ⟨g1, g2, g3, g4, g5⟩ := w k (by omega)
  rw [show 69 + 5 * k + 1 = 70 + 5 * k by omega] at f1
  rw [show 69 + 5 * k + 2 = 71 + 5 * k by omega] at f2
  rw [show 69 + 5 * k + 3 = 72 + 5 * k by omega] at f3
  rw [show 69 + 5 * k + 4 = 73 + 5 * k by omega] at f4
  rw [f1] at g1 g3 g4 g5
  rw [f2] at g2
  rw [f3] at g3 g4
  rw [f4] at g5
  refine ⟨g1, by omega, fun z => by have := g4 z; omega, fun z => by have := g3 z; omega, hh k hk, fun z => ?_⟩
  have := g5 z
  rw [if_pos z] at this
  exact this
theorem wyS_of {Hx Hm : mzH} (h : wRl (fZ Hx 3 7).toInt.toNat 25344 (fun k => aZ Hx 5 k) (uX Hm)) : wyS 8 (wyX Hx) (wyM Hm) := fun a b hab ha hb => by
  obtain ⟨h1, h2, _⟩ := h a.toNat b.toNat (by omega) (by omega)
  have e : wyM Hm a b = mE (uX Hm) a.toNat b.toNat := by
    unfold wyM mE uX
    rw [if_pos (by omega), show (8 * a + b).toNat = 8 * a.toNat + b.toNat by omega]
  unfold wyX
  rw [e]
  if c : 0 ≤ a ∧ a < (fZ Hx 3 7).toInt ∧ 0 ≤ b ∧ b < (fZ Hx 3 7).toInt then
    rw [if_pos c]
    exact h1 (by omega)
  else
    rw [if_neg c]
    exact Or.inl ⟨rfl, h2 (by omega) (by omega)⟩
