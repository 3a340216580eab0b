/-! TOKENS: what both readers cut out of the bytes -/
def bB (x : Int) : Prop := x = 10 ∨ x = 32
def bL (x : Int) : Prop := 97 ≤ x ∧ x ≤ 122
def bD (x : Int) : Prop := 48 ≤ x ∧ x ≤ 57
/-- from i on, p is the first place that is no blank, or the end -/
def skP (b : Nat → Int) (n i p : Nat) : Prop := i ≤ p ∧ p ≤ n ∧ (∀ k, i ≤ k → k < p → bB (b k)) ∧ (p < n → ¬ bB (b p))
theorem skP_eq {b : Nat → Int} {n i p q : Nat} (h : skP b n i p) (g : skP b n i q) : p = q := by
  obtain ⟨h1, h2, h3, h4⟩ := h
  obtain ⟨g1, g2, g3, g4⟩ := g
  rcases Nat.lt_trichotomy p q with c | c | c
  · exact absurd (g3 p h1 c) (h4 (by first | with_reducible assumption | omega))
  · exact c
  · exact absurd (h3 q g1 c) (g4 (by first | with_reducible assumption | omega))
/-- a run of signs of a sort, as long as can be -/
def rnP (P : Int → Prop) (b : Nat → Int) (n s e : Nat) : Prop := s < e ∧ e ≤ n ∧ (∀ k, s ≤ k → k < e → P (b k)) ∧ (e < n → ¬ P (b e))
theorem rnP_eq {P : Int → Prop} {b : Nat → Int} {n s e d : Nat} (h : rnP P b n s e) (g : rnP P b n s d) : e = d := by
  obtain ⟨h1, h2, h3, h4⟩ := h
  obtain ⟨g1, g2, g3, g4⟩ := g
  rcases Nat.lt_trichotomy e d with c | c | c
  · exact absurd (g3 e (by first | with_reducible assumption | omega) c) (h4 (by first | with_reducible assumption | omega))
  · exact c
  · exact absurd (h3 d (by first | with_reducible assumption | omega) c) (g4 (by first | with_reducible assumption | omega))
/-- the value of k letters from s on -/
def wv (b : Nat → Int) (s : Nat) : Nat → Int
  | 0 => 0
  | k + 1 => wv b s k * 32 + (b (s + k) - 96)
/-- the value of k digits, as the class and as the reference count it -/
def dC (b : Nat → Int) (s : Nat) : Nat → Int
  | 0 => 0
  | k + 1 => min (dC b s k * 10 + (b (s + k) - 48)) 100000
def dM (b : Nat → Int) (s : Nat) : Nat → Int
  | 0 => 0
  | k + 1 => if 9999 < dM b s k then dM b s k else 10 * dM b s k + (b (s + k) - 48)
/-- two numbers that are the same, or both beyond -/
def nmR (x m : Int) : Prop := (0 ≤ m ∧ m ≤ 9999 ∧ x = m) ∨ (9999 < m ∧ 9999 < x)
theorem dC_dM {b : Nat → Int} {s : Nat} : ∀ k, (∀ i, i < k → bD (b (s + i))) → ((0 ≤ dM b s k ∧ dM b s k ≤ 9999 ∧ dC b s k = dM b s k) ∨ (9999 < dM b s k ∧ dM b s k ≤ 99999 ∧ 9999 < dC b s k ∧ dC b s k ≤ 100000))
  | 0, _ => by left; simp [dM, dC]
  | k + 1, h => by
    have ih := dC_dM k (fun i hi => h i (by first | with_reducible assumption | omega))
    have hd := h k (by first | with_reducible assumption | omega)
    unfold bD at hd
    unfold dC dM
    split
    · rename_i c
      right
      omega
    · rename_i c
      omega
theorem wv_bd {b : Nat → Int} {s : Nat} : ∀ k, (∀ i, i < k → bL (b (s + i))) → 0 ≤ wv b s k ∧ wv b s k < 32 ^ k
  | 0, _ => by simp [wv]
  | k + 1, h => by
    have ih := wv_bd k (fun i hi => h i (by first | with_reducible assumption | omega))
    have hd := h k (by first | with_reducible assumption | omega)
    unfold bL at hd
    have e : (32 : Int) ^ (k + 1) = 32 ^ k * 32 := by rw [Int.pow_succ]
    unfold wv
    rw [e]
    omega
theorem wv_inj {b c : Nat → Int} {s t : Nat} : ∀ {k l : Nat}, (∀ i, i < k → bL (b (s + i))) → (∀ i, i < l → bL (c (t + i))) → wv b s k = wv c t l → k = l ∧ ∀ i, i < k → b (s + i) = c (t + i)
  | 0, 0, _, _, _ => ⟨rfl, fun i hi => absurd hi (Nat.not_lt_zero i)⟩
  | 0, l + 1, _, hc, e => by
    exfalso
    have h1 := (wv_bd l (fun i hi => hc i (by first | with_reducible assumption | omega))).1
    have h2 := hc l (by first | with_reducible assumption | omega)
    unfold bL at h2
    unfold wv at e
    omega
  | k + 1, 0, hb, _, e => by
    exfalso
    have h1 := (wv_bd k (fun i hi => hb i (by first | with_reducible assumption | omega))).1
    have h2 := hb k (by first | with_reducible assumption | omega)
    unfold bL at h2
    unfold wv at e
    omega
  | k + 1, l + 1, hb, hc, e => by
    have h2 := hb k (by first | with_reducible assumption | omega)
    have h3 := hc l (by first | with_reducible assumption | omega)
    unfold bL at h2 h3
    unfold wv at e
    have e1 : wv b s k = wv c t l := by omega
    have e2 : b (s + k) = c (t + l) := by omega
    obtain ⟨e3, e4⟩ := wv_inj (k := k) (l := l) (fun i hi => hb i (by first | with_reducible assumption | omega)) (fun i hi => hc i (by first | with_reducible assumption | omega)) e1
    subst e3
    refine ⟨rfl, fun i hi => ?_⟩
    if h : i = k then
      subst h
      exact e2
    else exact e4 i (by first | with_reducible assumption | omega)
theorem wv_cg {b c : Nat → Int} {s t : Nat} : ∀ {k : Nat}, (∀ i, i < k → b (s + i) = c (t + i)) → wv b s k = wv c t k
  | 0, _ => rfl
  | k + 1, h => by
    unfold wv
    rw [wv_cg (fun i hi => h i (by first | with_reducible assumption | omega)), h k (by first | with_reducible assumption | omega)]
theorem dC_cg {b c : Nat → Int} {s t : Nat} : ∀ {k : Nat}, (∀ i, i < k → b (s + i) = c (t + i)) → dC b s k = dC c t k
  | 0, _ => rfl
  | k + 1, h => by
    unfold dC
    rw [dC_cg (fun i hi => h i (by first | with_reducible assumption | omega)), h k (by first | with_reducible assumption | omega)]
/-- the class's signed bytes, the reference's unsigned ones -/
def sgB (x m : Int) : Prop := (0 ≤ x ∧ x = m) ∨ (x < 0 ∧ 128 ≤ m)
theorem skP_sg {b c : Nat → Int} {n i p : Nat} (hs : ∀ k, k < n → sgB (b k) (c k)) (h : skP b n i p) : skP c n i p := by
  obtain ⟨h1, h2, h3, h4⟩ := h
  refine ⟨h1, h2, fun k hk hk2 => ?_, fun hp hc => h4 hp ?_⟩
  · have a := h3 k hk hk2
    have d := hs k (by first | with_reducible assumption | omega)
    unfold bB sgB at *
    omega
  · have d := hs p hp
    unfold bB sgB at *
    omega
theorem rnL_sg {b c : Nat → Int} {n s e : Nat} (hs : ∀ k, k < n → sgB (b k) (c k)) (h : rnP bL b n s e) : rnP bL c n s e ∧ ∀ k, s ≤ k → k < e → b k = c k := by
  obtain ⟨h1, h2, h3, h4⟩ := h
  refine ⟨⟨h1, h2, fun k hk hk2 => ?_, fun hp hc => h4 hp ?_⟩, fun k hk hk2 => ?_⟩
  · have a := h3 k hk hk2
    have d := hs k (by first | with_reducible assumption | omega)
    unfold bL sgB at *
    omega
  · have d := hs e hp
    unfold bL sgB at *
    omega
  · have a := h3 k hk hk2
    have d := hs k (by first | with_reducible assumption | omega)
    unfold bL sgB at *
    omega
theorem rnD_sg {b c : Nat → Int} {n s e : Nat} (hs : ∀ k, k < n → sgB (b k) (c k)) (h : rnP bD b n s e) : rnP bD c n s e ∧ ∀ k, s ≤ k → k < e → b k = c k := by
  obtain ⟨h1, h2, h3, h4⟩ := h
  refine ⟨⟨h1, h2, fun k hk hk2 => ?_, fun hp hc => h4 hp ?_⟩, fun k hk hk2 => ?_⟩
  · have a := h3 k hk hk2
    have d := hs k (by first | with_reducible assumption | omega)
    unfold bD sgB at *
    omega
  · have d := hs e hp
    unfold bD sgB at *
    omega
  · have a := h3 k hk hk2
    have d := hs k (by first | with_reducible assumption | omega)
    unfold bD sgB at *
    omega
/-- the language's words by their values: in the class's order, in the reference's -/
def cX : List Int := [17171557, 605220, 206483, 52, 427365, 702772, 102322670, 538325172, 525419, 16052, 508078, 627756, 442053, 625710, 628108, 66667, 5572, 215205]
def cM : List Int := [427365, 525419, 16052, 508078, 627756, 442053, 625710, 628108, 66667, 5572, 215205, 17171557, 605220, 206483, 52, 702772, 102322670, 538325172]
/-- a word's kind as the class says it, as the reference does -/
def kwX (k v : Int) : Prop := (k = 18 ∧ ∀ j, j < 18 → v ≠ cX.getD j 0) ∨ (0 ≤ k ∧ k < 18 ∧ v = cX.getD k.toNat 0)
def kwM (k v : Int) : Prop := (k = -1 ∧ ∀ j, j < 18 → v ≠ cM.getD j 0) ∨ (0 ≤ k ∧ k < 18 ∧ v = cM.getD k.toNat 0)
/-- the class's kinds, the reference's numbers of words -/
def kwR (k m : Int) : Prop := (k = 18 ∧ m = -1) ∨ (0 ≤ k ∧ k ≤ 3 ∧ m = k + 11) ∨ (k = 4 ∧ m = 0) ∨ (5 ≤ k ∧ k ≤ 7 ∧ m = k + 10) ∨ (8 ≤ k ∧ k ≤ 17 ∧ m = k - 7)
def cPm (k : Nat) : Nat := if k ≤ 3 then k + 11 else if k = 4 then 0 else if k ≤ 7 then k + 10 else k - 7
theorem c_pm : ∀ k, k < 18 → (cPm k < 18 ∧ cX.getD k 0 = cM.getD (cPm k) 0) := by decide
theorem c_pm2 : ∀ m, m < 18 → ∃ k, k < 18 ∧ cPm k = m := by decide
theorem c_ne : ∀ a, a < 18 → ∀ b, b < 18 → cM.getD a 0 = cM.getD b 0 → a = b := by decide
theorem kw_rel {k m v : Int} (hx : kwX k v) (hm : kwM m v) : kwR k m := by
  rcases hx with ⟨rfl, hx⟩ | ⟨h1, h2, h3⟩
  · rcases hm with ⟨rfl, _⟩ | ⟨g1, g2, g3⟩
    · exact Or.inl ⟨rfl, rfl⟩
    · exfalso
      obtain ⟨k, hk, e⟩ := c_pm2 m.toNat (by first | with_reducible assumption | omega)
      exact hx k hk (by rw [g3, (c_pm k hk).2, e])
  · obtain ⟨g1, g2⟩ := c_pm k.toNat (by first | with_reducible assumption | omega)
    rcases hm with ⟨rfl, hm⟩ | ⟨a1, a2, a3⟩
    · exact absurd (h3.trans g2) (hm _ g1)
    · have e := c_ne _ g1 m.toNat (by first | with_reducible assumption | omega) (by rw [← g2, ← h3, a3])
      unfold cPm at e
      right
      split at e
      · left; omega
      · split at e
        · right; left; omega
        · split at e
          · right; right; left; omega
          · right; right; right; omega
