/-- a fact kept shut -/
def bx (p : Prop) : Prop := p
theorem bx.mk {p : Prop} (h : p) : bx p := h
theorem bx.op {p : Prop} (h : bx p) : p := h
/-- what a line may touch -/
def frM (H B : mzH) : Prop := (∀ c, c ≠ 0 → c ≠ 3 → c ≠ 4 → B[c]? = H[c]?) ∧ ∀ f, f ≠ 17 → fZ B 0 f = fZ H 0 f
theorem frM_r {H : mzH} : frM H H := ⟨fun _ _ _ _ => rfl, fun _ _ => rfl⟩
theorem frM_t {H B B1 : mzH} (h : frM H B) (g : frM B B1) : frM H B1 := ⟨fun c a b d => (g.1 c a b d).trans (h.1 c a b d), fun f hf => (g.2 f hf).trans (h.2 f hf)⟩
theorem frM_A {H B B1 : mzH} {a i : Nat} {v : Int32} (m : frM H B) (e : B1 = sA B a i v) (h : a = 3 ∨ a = 4) : frM H B1 := frM_t m ⟨fun c _ _ _ => by rw [e, c_sA (by first | with_reducible assumption | omega)], fun f _ => by rw [e, fZ_sA]⟩
theorem frM_F {H B B1 : mzH} {f : Nat} {v : Int32} (m : frM H B) (e : B1 = sF B 0 f v) (h : f = 17) : frM H B1 := frM_t m ⟨fun c _ _ _ => by rw [e, c_sF (by first | with_reducible assumption | omega)], fun g _ => by rw [e, fZ_sF_ne (by first | with_reducible assumption | omega)]⟩
theorem tkM_fr {H B : mzH} {b : Nat → Int} {n : Nat} {T : pT} (h : tkM H b n T) (f : frM H B) : tkM B b n T := by
  refine ⟨fun q hq => ?_, h.2.1, ?_⟩
  · unfold bM
    rw [aZ_cg (f.1 1 (by decide) (by decide) (by decide))]
    exact h.1 q hq
  · rw [f.2 7 (by decide)]
    exact h.2.2
theorem ph_ok {c : pB} {T : pT} {g : pG} : (g.f = 0 ∧ T.K g.t = 18 ∧ pPh c T g ≠ -1) ∨ pPh c T g = -1 := by
  if h : g.f = 0 ∧ T.K g.t = 18 then
    if q : pPh c T g = -1 then exact Or.inr q
    else exact Or.inl ⟨h.1, h.2, q⟩
  else
    refine Or.inr (ph_0 ?_ rfl).symm
    if q : g.f = 0 then exact Or.inr (fun z => h ⟨q, z⟩)
    else exact Or.inl q
theorem pl_ph {c : pB} {T : pT} {g : pG} (h : pPh c T g ≠ -1) : g.f = 0 ∧ T.K g.t = 18 ∧ pPl c.nm c.P T g = pPh c T g ∧ pPl c.nm c.P T g ≠ -2 ∧ pPl c.nm c.P T g ≠ -1 := by
  have hk := (ph_ok (c := c) (T := T) (g := g)).resolve_right h
  unfold pPh at h ⊢
  if q : g.f = 0 ∧ pPl c.nm c.P T g ≠ -2 then
    rw [if_pos q] at h ⊢
    exact ⟨hk.1, hk.2.1, rfl, q.2, h⟩
  else
    rw [if_neg q] at h
    exact absurd rfl h
theorem pl_no {c : pB} {T : pT} {g : pG} (hf : g.f = 0) (h : pPh c T g = -1) : pPl c.nm c.P T g = -2 := by
  unfold pPh at h
  if q : pPl c.nm c.P T g = -2 then exact q
  else
    rw [if_pos ⟨hf, q⟩] at h
    unfold pPl at h q
    split at h
    · have := pn_ge (nm := c.nm) (w := T.V g.t) (P := c.P.toNat)
      rw [if_pos (by assumption)] at q
      omega
    · omega
theorem rp_ok {c : pB} {T : pT} {g : pG} : (pPlc c.nm c.P T (-1) g).f ≠ 0 ∨ ((pPlc c.nm c.P T (-1) g).f = 0 ∧ g.f = 0 ∧ pPh c T g ≠ -1) := by
  if h : pPh c T g = -1 then
    left
    rw [rp_1 h, gn_f]
    exact (pF_ne (by decide)).1
  else
    right
    rw [rp_2 h, gn_f]
    exact ⟨(pl_ph h).1, (pl_ph h).1, h⟩
theorem pPlc_no {nm : Nat → Int} {P but : Int} {T : pT} {g : pG} (h : g.f ≠ 0) : pPlc nm P T but g = g := by
  unfold pPlc
  rw [pF_neg h, pF_neg h, pT_no h, ite_self, ite_self]
theorem nw_1 {c : pB} {T : pT} {g : pG} (h : (pRdP1 c T g).f ≠ 0) : pRdP c T g = pGn T (pRdP1 c T g) := by
  unfold pRdP
  rw [pF_neg h, pT_no h, ite_self, gn_no h]
theorem nw_2 {c : pB} {T : pT} {g : pG} (h : T.K (pRdP1 c T g).t ≠ 18) : pRdP c T g = pGn T (pFail T 1 (pRdP1 c T g)) := by
  unfold pRdP
  rw [if_neg (fun z => h z.1), tk_n (by first | with_reducible assumption | omega)]
theorem nw_3 {c : pB} {T : pT} {g : pG} (h : pPh c T (pRdP1 c T g) ≠ -1) : pRdP c T g = pGn T (pFail T 3 (pRdP1 c T g)) := by
  obtain ⟨h1, h2, h3, h4, h5⟩ := pl_ph h
  unfold pRdP
  unfold pPl at h4
  rw [if_pos h2] at h4
  rw [if_pos ⟨h2, h4⟩, tk_y (by rw [(pF_ne (by decide)).2]; omega)]
theorem nw_4 {c : pB} {T : pT} {g : pG} (h : pPh c T (pRdP1 c T g) = -1) (hf : (pRdP1 c T g).f = 0) (hk : T.K (pRdP1 c T g).t = 18) : pRdP c T g = pGn T (pRdP1 c T g) := by
  have h4 := pl_no hf h
  unfold pPl at h4
  rw [if_pos hk] at h4
  unfold pRdP
  rw [if_neg (fun z => z.2 h4), tk_y (by first | with_reducible assumption | omega)]
theorem rr_a {c : pB} {T : pT} {g g1 g2 : pG} (e : g = pFail T 3 g2) (h0 : pPh c T g2 = pPh c T g1) (h1 : pPh c T g1 ≠ -1) : pPlc c.nm c.P T (pPl c.nm c.P T g1) g2 = pPlc c.nm c.P T (-1) g := by
  have k1 := pl_ph h1
  have k2 := pl_ph (show pPh c T g2 ≠ -1 by omega)
  have e2 : pPl c.nm c.P T g = pPl c.nm c.P T g2 := by
    unfold pPl
    rw [e, (pF_ne (by decide)).2]
  unfold pPlc
  rw [if_neg (by first | with_reducible assumption | omega), if_pos (by first | with_reducible assumption | omega), if_neg (by first | with_reducible assumption | omega), if_neg (by first | with_reducible assumption | omega), e]
theorem rr_b {c : pB} {T : pT} {g g1 g2 : pG} (e : g = g2) (h0 : pPh c T g2 ≠ pPh c T g1) (h1 : g2.f = 0 ∧ pPh c T g1 ≠ -1) : pPlc c.nm c.P T (pPl c.nm c.P T g1) g2 = pPlc c.nm c.P T (-1) g := by
  subst e
  have k1 := pl_ph h1.2
  if q : pPh c T g = -1 then
    have k2 := pl_no h1.1 q
    unfold pPlc
    rw [if_pos k2, if_pos k2]
  else
    have k2 := pl_ph q
    unfold pPlc
    rw [if_neg (by first | with_reducible assumption | omega), if_neg (by first | with_reducible assumption | omega), if_neg (by first | with_reducible assumption | omega), if_neg (by first | with_reducible assumption | omega)]
theorem rr_c {c : pB} {T : pT} {g g2 : pG} {but : Int} (e : g = g2) (h : g2.f ≠ 0) : pPlc c.nm c.P T but g2 = pPlc c.nm c.P T (-1) g := by
  subst e
  rw [pPlc_no h, pPlc_no h]
theorem bkM_up {H B : mzH} {c : pB} {P R U C F : Int} {nm : Nat → Int} (hb : bkM H c) (h69 : ∀ i, 69 ≤ i → aZ B 3 i = aZ H 3 i) (h0 : (aZ B 3 0).toInt = P) (h1 : (aZ B 3 1).toInt = R) (h2 : aZ B 3 2 = aZ H 3 2) (h3 : (aZ B 3 3).toInt = U) (h4 : (aZ B 3 4).toInt = C) (hF : (fZ B 0 17).toInt = F) (hn : ∀ p : Nat, (p : Int) < P → (aZ B 4 p).toInt = nm p) (hR : 0 ≤ R ∧ R ≤ 12) : bkM B (pBm P R c.N U C F nm c.hr c.ac c.fi c.se c.ki) := by
  obtain ⟨g0, g1, g2, g3, g4, g5, g6, g7, g8⟩ := hb
  refine ⟨h0, h1, by rw [h2]; exact g2, h3, h4, hF, hn, fun k hk => ?_, hR⟩
  rw [h69 _ (by first | with_reducible assumption | omega), h69 _ (by first | with_reducible assumption | omega), h69 _ (by first | with_reducible assumption | omega), h69 _ (by first | with_reducible assumption | omega), h69 _ (by first | with_reducible assumption | omega)]
  exact g7 k hk
theorem npl_mk {H B1 B2 : mzH} {c : pB} {i w x v : Int32} {u : Int} (hI : gI SM H) (hI1 : gI SM B1) (hb : bkM H c) (e1 : B1 = sA H 4 i.toInt.toNat w) (e2 : B2 = sA B1 3 x.toInt.toNat v) (hi : i.toInt = c.P ∧ 0 ≤ c.P ∧ c.P < 8) (hx : x.toInt = 0) (hv : v.toInt = c.P + 1) (hw : w.toInt = u) : bkM B2 (bPl c u) := by
  have a3 : ∀ k, k ≠ 0 → aZ B2 3 k = aZ H 3 k := fun k hk => by rw [e2, aZ_sA_ne (by first | with_reducible assumption | omega), e1, aZ_sA_nc (by decide)]
  have hb' := hb
  obtain ⟨g0, g1, g2, g3, g4, g5, g6, g7, g8⟩ := hb'
  refine bkM_up hb (fun i h => a3 i (by first | with_reducible assumption | omega)) ?_ (by rw [a3 1 (by decide)]; exact g1) (a3 2 (by decide)) (by rw [a3 3 (by decide)]; exact g3) (by rw [a3 4 (by decide)]; exact g4) (by rw [e2, fZ_sA, e1, fZ_sA]; exact g5) (fun p hp => ?_) g8
  · rw [e2, show x.toInt.toNat = 0 by omega, aZ_sA_eq hI1 sm_3 (by decide)]
    exact hv
  · rw [e2, aZ_sA_nc (by decide), e1, aZ_if hI sm_4 (by first | with_reducible assumption | omega) (show i.toInt.toNat = c.P.toNat by omega)]
    if q : p = c.P.toNat then
      rw [if_pos q, if_pos (by first | with_reducible assumption | omega)]
      exact hw
    else
      rw [if_neg q, if_neg (by first | with_reducible assumption | omega)]
      exact g6 p (by first | with_reducible assumption | omega)
theorem nrd_mk {H B : mzH} {c : pB} {x v : Int32} (hI : gI SM H) (hb : bkM H c) (e : B = sA H 3 x.toInt.toNat v) (hx : x.toInt = 1) (hv : v.toInt = c.R + 1 ∧ 0 ≤ c.R ∧ c.R < 12) : bkM B (bRd c) := by
  have a3 : ∀ k, k ≠ 1 → aZ B 3 k = aZ H 3 k := fun k hk => by rw [e, aZ_sA_ne (by first | with_reducible assumption | omega)]
  have hb' := hb
  obtain ⟨g0, g1, g2, g3, g4, g5, g6, g7, g8⟩ := hb'
  refine bkM_up hb (fun i h => a3 i (by first | with_reducible assumption | omega)) (by rw [a3 0 (by decide)]; exact g0) ?_ (a3 2 (by decide)) (by rw [a3 3 (by decide)]; exact g3) (by rw [a3 4 (by decide)]; exact g4) (by rw [e, fZ_sA]; exact g5) (fun p hp => ?_) ⟨by omega, by omega⟩
  · rw [e, show x.toInt.toNat = 1 by omega, aZ_sA_eq hI sm_3 (by decide)]
    exact hv.1
  · rw [e, aZ_sA_nc (by decide)]
    exact g6 p hp
theorem bkM_w {H B : mzH} {c : pB} {x v : Int32} (_ : gI SM H) (hb : bkM H c) (e : B = sA H 3 x.toInt.toNat v) (hx : 5 ≤ x.toInt ∧ x.toInt < 69) : bkM B c := by
  have a3 : ∀ k, (k < 5 ∨ 69 ≤ k) → aZ B 3 k = aZ H 3 k := fun k hk => by rw [e, aZ_sA_ne (by first | with_reducible assumption | omega)]
  have hb' := hb
  obtain ⟨g0, g1, g2, g3, g4, g5, g6, g7, g8⟩ := hb'
  exact bkM_up hb (fun i h => a3 i (by first | with_reducible assumption | omega)) (by rw [a3 0 (by decide)]; exact g0) (by rw [a3 1 (by decide)]; exact g1) (a3 2 (by decide)) (by rw [a3 3 (by decide)]; exact g3) (by rw [a3 4 (by decide)]; exact g4) (by rw [e, fZ_sA]; exact g5) (fun p hp => by rw [e, aZ_sA_nc (by decide)]; exact g6 p hp) g8
theorem nft_mk {H B1 B2 B3 : mzH} {c : pB} {t x u y w : Int32} {U C : Int} (hI : gI SM H) (hI1 : gI SM B1) (hI2 : gI SM B2) (hb : bkM H c) (e1 : B1 = sF H 0 17 t) (e2 : B2 = sA B1 3 x.toInt.toNat u) (e3 : B3 = sA B2 3 y.toInt.toNat w) (ht : t.toInt = 1) (hx : x.toInt = 3) (hy : y.toInt = 4) (hu : u.toInt = U) (hw : w.toInt = C) : bkM B3 (bFt c U C) := by
  have a3 : ∀ k, k ≠ 3 → k ≠ 4 → aZ B3 3 k = aZ H 3 k := fun k hk h4 => by rw [e3, aZ_sA_ne (by first | with_reducible assumption | omega), e2, aZ_sA_ne (by first | with_reducible assumption | omega), e1, aZ_sF]
  have hb' := hb
  obtain ⟨g0, g1, g2, g3, g4, g5, g6, g7, g8⟩ := hb'
  refine bkM_up hb (fun i h => a3 i (by first | with_reducible assumption | omega) (by first | with_reducible assumption | omega)) (by rw [a3 0 (by decide) (by decide)]; exact g0) (by rw [a3 1 (by decide) (by decide)]; exact g1) (a3 2 (by decide) (by decide)) ?_ ?_ (by rw [e3, fZ_sA, e2, fZ_sA, e1, fZ_sF_eq hI sm_0 rfl]; exact ht) (fun p hp => by rw [e3, aZ_sA_nc (by decide), e2, aZ_sA_nc (by decide), e1, aZ_sF]; exact g6 p hp) g8
  · rw [e3, aZ_sA_ne (by first | with_reducible assumption | omega), e2, show x.toInt.toNat = 3 by omega, aZ_sA_eq hI1 sm_3 (by decide)]
    exact hu
  · rw [e3, show y.toInt.toNat = 4 by omega, aZ_sA_eq hI2 sm_3 (by decide)]
    exact hw
