/-! WHERE NO FAULT IS, NO PLACE IS -/
def pq (g g' : pG) : Prop := g'.f = 0 → g.f = 0 ∧ g'.p = g.p
theorem pq_r {g : pG} : pq g g := fun h => ⟨h, rfl⟩
theorem pq_t {a b c : pG} (h : pq a b) (k : pq b c) : pq a c := fun z => by
  obtain ⟨k1, k2⟩ := k z
  obtain ⟨h1, h2⟩ := h k1
  exact ⟨h1, k2.trans h2⟩
theorem pq_F {T : pT} {n : Int} {g : pG} (h : n ≠ 0) : pq g (pFail T n g) := fun z => absurd z (pF_ne h).1
theorem pq_G {T : pT} {g : pG} : pq g (pGo T g) := fun z => by
  rw [pGo_f] at z
  refine ⟨z, ?_⟩
  unfold pGo
  split <;> rfl
theorem pq_T {T : pT} {lo hi : Int} {g : pG} : pq g (pTake T lo hi g) := by
  unfold pTake
  split
  · exact pq_F (by decide)
  · split
    · exact pq_r
    · exact pq_G
theorem pq_N {T : pT} {lo hi : Int} {g : pG} : pq g (pNumb T lo hi g) := by
  unfold pNumb
  split
  · exact pq_t (pq_F (by decide)) pq_T
  · exact pq_T
theorem pq_P {nm : Nat → Int} {P but : Int} {T : pT} {g : pG} : pq g (pPlc nm P T but g) := by
  unfold pPlc
  split
  · exact pq_t (pq_F (by decide)) pq_T
  · split
    · exact pq_t (pq_F (by decide)) pq_T
    · exact pq_T
theorem pq_A {T : pT} {g : pG} : pq g (pAct T g) := by
  unfold pAct
  split <;> exact pq_T
theorem pq_S {b : pB} {T : pT} {a : Int} {g : pG} : pq g (pSec b T a g) := by
  unfold pSec
  split
  · exact pq_N
  · split
    · exact pq_P
    · exact pq_r
theorem pq_1 {b : pB} {T : pT} {g : pG} : pq g (pRdP b T g) := by
  have h1 : pq g (pRdP1 b T g) := by
    unfold pRdP1
    split
    · exact pq_t (pq_F (by decide)) pq_T
    · exact pq_T
  unfold pRdP
  split
  · exact pq_t h1 (pq_t (pq_F (by decide)) pq_T)
  · exact pq_t h1 pq_T
theorem pq_2 {b : pB} {T : pT} {g : pG} : pq g (pRdR b T g) := by
  have h1 : pq g (pRdR1 b T g) := by
    unfold pRdR1
    split
    · exact pq_t (pq_F (by decide)) pq_T
    · exact pq_T
  exact pq_t (pq_t (pq_t h1 pq_P) pq_P) pq_N
theorem pq_3 {b : pB} {T : pT} {g : pG} : pq g (pRdF b T g) := by
  have h1 : pq g (pRdF1 b T g) := by
    unfold pRdF1
    split
    · exact pq_t (pq_F (by decide)) pq_T
    · exact pq_T
  exact pq_t (pq_t h1 pq_N) pq_N
theorem pq_4 {b : pB} {T : pT} {g : pG} : pq g (pM6 b T g) := by
  have h1 : pq g (pM1 b T g) := by
    unfold pM1
    split
    · exact pq_t (pq_F (by decide)) pq_T
    · exact pq_T
  have h4 : pq g (pM4 b T g) := pq_t (pq_t (pq_t h1 pq_N) pq_A) pq_N
  have h5 : pq g (pM5 b T g) := by
    unfold pM5
    split
    · exact pq_t h4 pq_T
    · exact h4
  exact pq_t h5 pq_S
theorem pq_L {b : pB} {T : pT} {g : pG} : pq g (pLn b T g) := by
  have h : pq g (pLn1 b T g) := by
    unfold pLn1
    split
    · exact pq_1
    · split
      · exact pq_2
      · split
        · exact pq_3
        · split
          · exact pq_4
          · exact pq_F (by decide)
  exact pq_t h pq_T
theorem pq_I {told : Int} {T : pT} {b : pB} : ∀ n, pq g0 (pIt told T n b).2
  | 0 => pq_r
  | n + 1 => by
    have hs : pq (pIt told T n b).2 (pSg told T (pIt told T n b).2) := by
      unfold pSg
      split
      · exact pq_F (by decide)
      · exact pq_r
    exact pq_t (pq_I n) (pq_t hs pq_L)
theorem it_p {told : Int} {T : pT} {b : pB} {n : Nat} (h : (pIt told T n b).2.f = 0) : (pIt told T n b).2.p = -1 := (pq_I n h).2
theorem gs_one {told : Int} {T : pT} {b : pB} {n m : Nat} (h1 : pGoes told T b n) (s1 : pStop T (pIt told T n b).2) (h2 : pGoes told T b m) (s2 : pStop T (pIt told T m b).2) : n = m := by
  rcases Nat.lt_trichotomy n m with h | h | h
  · exact absurd s1 (h2 n h)
  · exact h
  · exact absurd s2 (h1 m h)
