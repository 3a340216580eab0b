/-! THE TWO READERS' TOKENS -/
theorem tkX_eq {b : Nat → Int} {n s e d : Nat} {k v k' v' : Int} (h : tkX b n s e k v) (g : tkX b n s d k' v') : e = d := by
  rcases h with ⟨h, _⟩ | ⟨h, _⟩ | ⟨a1, a2, _, a3, _⟩
  · rcases g with ⟨g, _⟩ | ⟨g, _⟩ | ⟨c1, c2, _, c3, _⟩
    · exact rnP_eq h g
    · have x := h.2.2.1 s (Nat.le_refl _) h.1
      have y := g.2.2.1 s (Nat.le_refl _) g.1
      unfold bL at x
      unfold bD at y
      omega
    · exact absurd (h.2.2.1 s (Nat.le_refl _) h.1) c1
  · rcases g with ⟨g, _⟩ | ⟨g, _⟩ | ⟨c1, c2, _, c3, _⟩
    · have x := g.2.2.1 s (Nat.le_refl _) g.1
      have y := h.2.2.1 s (Nat.le_refl _) h.1
      unfold bL at x
      unfold bD at y
      omega
    · exact rnP_eq h g
    · exact absurd (h.2.2.1 s (Nat.le_refl _) h.1) c2
  · rcases g with ⟨g, _⟩ | ⟨g, _⟩ | ⟨c1, c2, _, c3, _⟩
    · exact absurd (g.2.2.1 s (Nat.le_refl _) g.1) a1
    · exact absurd (g.2.2.1 s (Nat.le_refl _) g.1) a2
    · omega
theorem tkL_eq {b : Nat → Int} {n : Nat} {K S V : Nat → Int} : ∀ {m e d : Nat}, tkL b n K S V m e → tkL b n K S V m d → e = d
  | 0, _, _, h, g => by
    have h : _ = 0 := h
    have g : _ = 0 := g
    omega
  | m + 1, _, _, ⟨_, _, _, _, h⟩, ⟨_, _, _, _, g⟩ => tkX_eq h g
theorem tkL_pre {b : Nat → Int} {n : Nat} {K S V : Nat → Int} {t : Nat} : ∀ {m e : Nat}, tkL b n K S V m e → t ≤ m → ∃ d, tkL b n K S V t d
  | 0, e, h, ht => by
    have : t = 0 := by omega
    subst this
    exact ⟨e, h⟩
  | m + 1, e, h, ht => by
    if q : t = m + 1 then
      subst q
      exact ⟨e, h⟩
    else
      obtain ⟨d, h1, _⟩ := h
      exact tkL_pre h1 (by first | with_reducible assumption | omega)
/-- a token's kind and value: the class's, the reference's -/
def kR (K V so va wo : Int) : Prop := (0 ≤ K ∧ K ≤ 17 ∧ so = 0 ∧ kwR K va) ∨ (K = 18 ∧ so = 0 ∧ va = -1 ∧ wo = V) ∨ (K = 19 ∧ so = 1 ∧ nmR V va) ∨ (K = 20 ∧ so = 2) ∨ (K = 21 ∧ so = 3) ∨ (K = 22 ∧ so = 4)
theorem tk_one {b c : Nat → Int} {n s e a : Nat} {k v so va wo : Int} (hs : ∀ q, q < n → sgB (b q) (c q)) (hx : tkX b n s e k v) (hy : tkY c n s a so va wo) : a = e ∧ kR k v so va wo := by
  have hle := tk_le hx
  have hb := hs s (by first | with_reducible assumption | omega)
  rcases hx with ⟨h, hk⟩ | ⟨h, rfl, hv⟩ | ⟨a1, a2, _, a3, a4⟩
  · obtain ⟨h', heq⟩ := rnL_sg hs h
    have hl := h'.2.2.1 s (Nat.le_refl _) h'.1
    rcases hy with ⟨g, gk⟩ | ⟨g, _⟩ | ⟨c1, _⟩
    · have e1 := rnP_eq g h'
      subst e1
      refine ⟨rfl, ?_⟩
      have ew : wv b s (a - s) = wv c s (a - s) := wv_cg (fun i hi => heq _ (by first | with_reducible assumption | omega) (by first | with_reducible assumption | omega))
      rcases hk with ⟨k1, k2, k3⟩ | ⟨k1, k2⟩
      · rcases gk with ⟨g1, g2, g3, g4⟩ | ⟨g1, _⟩
        · rw [k2, ew] at k3
          have r := kw_rel k3 g4
          rcases k3 with ⟨k4, _⟩ | ⟨k4, k5, _⟩
          · refine Or.inr (Or.inl ⟨k4, g2, ?_, by rw [g3, k2, ew]⟩)
            unfold kwR at r
            omega
          · exact Or.inl ⟨k4, by omega, g2, r⟩
        · omega
      · rcases gk with ⟨g1, _⟩ | ⟨g1, g2⟩
        · omega
        · exact Or.inr (Or.inr (Or.inr (Or.inr (Or.inr ⟨k2, g2⟩))))
    · have y := g.2.2.1 s (Nat.le_refl _) g.1
      unfold bL at hl
      unfold bD at y
      omega
    · exact absurd hl c1
  · obtain ⟨h', heq⟩ := rnD_sg hs h
    have hl := h'.2.2.1 s (Nat.le_refl _) h'.1
    rcases hy with ⟨g, gk⟩ | ⟨g, g1, g2⟩ | ⟨_, c1, _⟩
    · have y := g.2.2.1 s (Nat.le_refl _) g.1
      unfold bD at hl
      unfold bL at y
      omega
    · have e1 := rnP_eq g h'
      subst e1
      refine ⟨rfl, Or.inr (Or.inr (Or.inl ⟨rfl, g1, ?_⟩))⟩
      have ed : dC b s (a - s) = dC c s (a - s) := dC_cg (fun i hi => heq _ (by first | with_reducible assumption | omega) (by first | with_reducible assumption | omega))
      have := dC_dM (b := c) (s := s) (a - s) (fun i hi => h'.2.2.1 _ (by first | with_reducible assumption | omega) (by first | with_reducible assumption | omega))
      unfold nmR
      rw [hv, ed, g2]
      omega
    · exact absurd hl c1
  · have n1 : ¬ bL (c s) := fun z => a1 (by unfold bL sgB at *; omega)
    have n2 : ¬ bD (c s) := fun z => a2 (by unfold bD sgB at *; omega)
    rcases hy with ⟨g, _⟩ | ⟨g, _⟩ | ⟨_, _, c3, c4⟩
    · exact absurd (g.2.2.1 s (Nat.le_refl _) g.1) n1
    · exact absurd (g.2.2.1 s (Nat.le_refl _) g.1) n2
    · refine ⟨by omega, ?_⟩
      unfold sgB at hb
      rcases a4 with ⟨a5, a6⟩ | ⟨a5, a6⟩
      · rcases c4 with ⟨c5, c6⟩ | ⟨c5, c6⟩
        · exact Or.inr (Or.inr (Or.inr (Or.inl ⟨a6, c6⟩)))
        · omega
      · rcases c4 with ⟨c5, c6⟩ | ⟨c5, c6⟩
        · omega
        · exact Or.inr (Or.inr (Or.inr (Or.inr (Or.inr ⟨a6, c6⟩))))
/-- where the reference stands behind t tokens -/
def atM (b : Nat → Int) (n : Nat) (T : pT) (t : Nat) (a : Int) : Prop := (t < T.M ∧ tkL b n T.K T.S T.V (t + 1) a.toNat) ∨ (t = T.M ∧ a.toNat = n)
theorem tk_rel {b c : Nat → Int} {n t e : Nat} {T : pT} {a p so va wo : Int} (hs : ∀ q, q < n → sgB (b q) (c q)) (hA : tkA b n T.K T.S T.V T.M) (ht : t ≤ T.M) (he : tkL b n T.K T.S T.V t e) (hp : 0 ≤ p) (hm : mkT c n e a p so va wo) : p = T.S t ∧ kR (T.K t) (T.V t) so va wo ∧ atM b n T t a := by
  obtain ⟨⟨e', h1, h2⟩, h3, h4⟩ := hA
  obtain ⟨m1, m2⟩ := hm
  if q : t = T.M then
    subst q
    have e1 := tkL_eq he h1
    subst e1
    have e2 := skP_eq m1 (skP_sg hs h2)
    rcases m2 with ⟨g1, g2, g3⟩ | ⟨g1, _⟩
    · exact ⟨by omega, Or.inr (Or.inr (Or.inr (Or.inr (Or.inl ⟨h3, g3⟩)))), Or.inr ⟨rfl, g2⟩⟩
    · omega
  else
    obtain ⟨d, d0, k1, k2, k3, k4⟩ := tkL_pre h1 (show t + 1 ≤ T.M by omega)
    have e1 := tkL_eq he k1
    subst e1
    have e2 := skP_eq m1 (skP_sg hs k3)
    have hle := tk_le k4
    rcases m2 with ⟨g1, _⟩ | ⟨g1, g2⟩
    · omega
    · rw [e2] at g2
      obtain ⟨e3, e4⟩ := tk_one hs k4 g2
      exact ⟨by omega, e4, Or.inl ⟨by omega, e, k1, k2, k3, by rw [e3]; exact k4⟩⟩
theorem tk_first {b c : Nat → Int} {n : Nat} {T : pT} {a p so va wo : Int} (hs : ∀ q, q < n → sgB (b q) (c q)) (hA : tkA b n T.K T.S T.V T.M) (hp : 0 ≤ p) (hm : mkT c n 0 a p so va wo) : p = T.S 0 ∧ kR (T.K 0) (T.V 0) so va wo ∧ atM b n T 0 a := tk_rel hs hA (Nat.zero_le _) rfl hp hm
theorem tk_next {b c : Nat → Int} {n t : Nat} {T : pT} {x a p so va wo : Int} (hs : ∀ q, q < n → sgB (b q) (c q)) (hA : tkA b n T.K T.S T.V T.M) (ht : t < T.M) (hx : atM b n T t x) (hp : 0 ≤ p) (hm : mkT c n x.toNat a p so va wo) : p = T.S (t + 1) ∧ kR (T.K (t + 1)) (T.V (t + 1)) so va wo ∧ atM b n T (t + 1) a := by
  rcases hx with ⟨_, h⟩ | ⟨h, _⟩
  · exact tk_rel hs hA ht h hp hm
  · omega
/-- behind the end: the end again -/
theorem tk_last {b c : Nat → Int} {n : Nat} {T : pT} {x a p so va wo : Int} (hA : tkA b n T.K T.S T.V T.M) (hx : atM b n T T.M x) (hp : 0 ≤ p) (hm : mkT c n x.toNat a p so va wo) : p = T.S T.M ∧ kR (T.K T.M) (T.V T.M) so va wo ∧ atM b n T T.M a := by
  obtain ⟨_, h3, h4⟩ := hA
  obtain ⟨m1, m2⟩ := hm
  rcases hx with ⟨h, _⟩ | ⟨_, h⟩
  · omega
  · have := m1.1
    rcases m2 with ⟨g1, g2, g3⟩ | ⟨g1, _⟩
    · exact ⟨by omega, Or.inr (Or.inr (Or.inr (Or.inr (Or.inl ⟨h3, g3⟩)))), Or.inr ⟨rfl, g2⟩⟩
    · omega
