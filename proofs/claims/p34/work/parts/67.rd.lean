def rS (H : mzH) (x0 x1 x2 x3 x4 : Int32) : mzH := (sF (sF (sF (sF (sF H 19 2 x0) 19 3 x1) 19 4 x2) 19 5 x3) 19 6 x4)
theorem rS_s2 {H : mzH} {x0 x1 x2 x3 x4 : Int32} {w : Int32} (_ : gI SX H) : sF (rS H x0 x1 x2 x3 x4) 19 2 w = rS H w x1 x2 x3 x4 := by
  unfold rS
  rw [sF_comm (f := 6) (g := 2) (by decide), sF_comm (f := 5) (g := 2) (by decide), sF_comm (f := 4) (g := 2) (by decide), sF_comm (f := 3) (g := 2) (by decide), sF_same]
theorem rS_g2 {H : mzH} {x0 x1 x2 x3 x4 : Int32} (hI : gI SX H) : x0 = fZ (rS H x0 x1 x2 x3 x4) 19 2 := by
  unfold rS
  rw [fZ_sF_ne (f := 6) (g := 2) (by decide), fZ_sF_ne (f := 5) (g := 2) (by decide), fZ_sF_ne (f := 4) (g := 2) (by decide), fZ_sF_ne (f := 3) (g := 2) (by decide), fZ_sF_ob (ob_of hI sx_19 (n := 8) (by decide)) (by decide)]
theorem rS_s3 {H : mzH} {x0 x1 x2 x3 x4 : Int32} {w : Int32} (_ : gI SX H) : sF (rS H x0 x1 x2 x3 x4) 19 3 w = rS H x0 w x2 x3 x4 := by
  unfold rS
  rw [sF_comm (f := 6) (g := 3) (by decide), sF_comm (f := 5) (g := 3) (by decide), sF_comm (f := 4) (g := 3) (by decide), sF_same]
theorem rS_g3 {H : mzH} {x0 x1 x2 x3 x4 : Int32} (hI : gI SX H) : x1 = fZ (rS H x0 x1 x2 x3 x4) 19 3 := by
  unfold rS
  rw [fZ_sF_ne (f := 6) (g := 3) (by decide), fZ_sF_ne (f := 5) (g := 3) (by decide), fZ_sF_ne (f := 4) (g := 3) (by decide), fZ_sF_ob (ob_sF (ob_of hI sx_19 (n := 8) (by decide))) (by decide)]
theorem rS_s4 {H : mzH} {x0 x1 x2 x3 x4 : Int32} {w : Int32} (_ : gI SX H) : sF (rS H x0 x1 x2 x3 x4) 19 4 w = rS H x0 x1 w x3 x4 := by
  unfold rS
  rw [sF_comm (f := 6) (g := 4) (by decide), sF_comm (f := 5) (g := 4) (by decide), sF_same]
theorem rS_g4 {H : mzH} {x0 x1 x2 x3 x4 : Int32} (hI : gI SX H) : x2 = fZ (rS H x0 x1 x2 x3 x4) 19 4 := by
  unfold rS
  rw [fZ_sF_ne (f := 6) (g := 4) (by decide), fZ_sF_ne (f := 5) (g := 4) (by decide), fZ_sF_ob (ob_sF (ob_sF (ob_of hI sx_19 (n := 8) (by decide)))) (by decide)]
theorem rS_s5 {H : mzH} {x0 x1 x2 x3 x4 : Int32} {w : Int32} (_ : gI SX H) : sF (rS H x0 x1 x2 x3 x4) 19 5 w = rS H x0 x1 x2 w x4 := by
  unfold rS
  rw [sF_comm (f := 6) (g := 5) (by decide), sF_same]
theorem rS_g5 {H : mzH} {x0 x1 x2 x3 x4 : Int32} (hI : gI SX H) : x3 = fZ (rS H x0 x1 x2 x3 x4) 19 5 := by
  unfold rS
  rw [fZ_sF_ne (f := 6) (g := 5) (by decide), fZ_sF_ob (ob_sF (ob_sF (ob_sF (ob_of hI sx_19 (n := 8) (by decide))))) (by decide)]
theorem rS_s6 {H : mzH} {x0 x1 x2 x3 x4 : Int32} {w : Int32} (_ : gI SX H) : sF (rS H x0 x1 x2 x3 x4) 19 6 w = rS H x0 x1 x2 x3 w := by
  unfold rS
  rw [sF_same]
theorem rS_g6 {H : mzH} {x0 x1 x2 x3 x4 : Int32} (hI : gI SX H) : x4 = fZ (rS H x0 x1 x2 x3 x4) 19 6 := by
  unfold rS
  rw [fZ_sF_ob (ob_sF (ob_sF (ob_sF (ob_sF (ob_of hI sx_19 (n := 8) (by decide)))))) (by decide)]
theorem rS_I {H : mzH} {x0 x1 x2 x3 x4 : Int32} (hI : gI SX H) (h0 : 0 ≤ x0.toInt ∧ x0.toInt ≤ 900) : gI SX (rS H x0 x1 x2 x3 x4) := (gI_sF (gI_sF (gI_sF (gI_sF (gI_sF hI sx_19 rfl h0) sx_19 rfl (gz_any _)) sx_19 rfl (gz_any _)) sx_19 rfl (gz_any _)) sx_19 rfl (gz_any _))
theorem rS_J {H : mzH} {x0 x1 x2 x3 x4 : Int32} (hJ : JX H) : JX (rS H x0 x1 x2 x3 x4) := (JX_sF rfl (JX_sF rfl (JX_sF rfl (JX_sF rfl (JX_sF rfl hJ)))))
theorem rS_o {H : mzH} {x0 x1 x2 x3 x4 : Int32} {c f : Nat} (h : c ≠ 19 ∨ (f ≠ 2 ∧ f ≠ 3 ∧ f ≠ 4 ∧ f ≠ 5 ∧ f ≠ 6)) : fZ H c f = fZ (rS H x0 x1 x2 x3 x4) c f := by
  unfold rS
  rcases h with h | h
  · rw [fZ_sF_nc (Ne.symm h), fZ_sF_nc (Ne.symm h), fZ_sF_nc (Ne.symm h), fZ_sF_nc (Ne.symm h), fZ_sF_nc (Ne.symm h)]
  · if hc : c = 19 then
      subst hc
      rw [fZ_sF_ne (f := 6) (by first | with_reducible assumption | omega), fZ_sF_ne (f := 5) (by first | with_reducible assumption | omega), fZ_sF_ne (f := 4) (by first | with_reducible assumption | omega), fZ_sF_ne (f := 3) (by first | with_reducible assumption | omega), fZ_sF_ne (f := 2) (by first | with_reducible assumption | omega)]
    else rw [fZ_sF_nc (Ne.symm hc), fZ_sF_nc (Ne.symm hc), fZ_sF_nc (Ne.symm hc), fZ_sF_nc (Ne.symm hc), fZ_sF_nc (Ne.symm hc)]
theorem rS_a {H : mzH} {x0 x1 x2 x3 x4 : Int32} {c i : Nat} : aZ (rS H x0 x1 x2 x3 x4) c i = aZ H c i := by
  unfold rS
  rw [aZ_sF, aZ_sF, aZ_sF, aZ_sF, aZ_sF]
theorem rS_cA {H : mzH} {x0 x1 x2 x3 x4 : Int32} {c i : Nat} {w : Int32} : sA (rS H x0 x1 x2 x3 x4) c i w = rS (sA H c i w) x0 x1 x2 x3 x4 := by
  unfold rS
  rw [sA_sF, sA_sF, sA_sF, sA_sF, sA_sF]
theorem rS_cF {H : mzH} {x0 x1 x2 x3 x4 : Int32} {c f : Nat} {w : Int32} (h : c ≠ 19 ∨ (f ≠ 2 ∧ f ≠ 3 ∧ f ≠ 4 ∧ f ≠ 5 ∧ f ≠ 6)) : sF (rS H x0 x1 x2 x3 x4) c f w = rS (sF H c f w) x0 x1 x2 x3 x4 := by
  unfold rS
  rcases h with h | h
  · rw [sF_cm2 (a := 19) (b := c) (f := 6) (Ne.symm h), sF_cm2 (a := 19) (b := c) (f := 5) (Ne.symm h), sF_cm2 (a := 19) (b := c) (f := 4) (Ne.symm h), sF_cm2 (a := 19) (b := c) (f := 3) (Ne.symm h), sF_cm2 (a := 19) (b := c) (f := 2) (Ne.symm h)]
  · if hc : c = 19 then
      subst hc
      rw [sF_comm (f := 6) (g := f) (by first | with_reducible assumption | omega), sF_comm (f := 5) (g := f) (by first | with_reducible assumption | omega), sF_comm (f := 4) (g := f) (by first | with_reducible assumption | omega), sF_comm (f := 3) (g := f) (by first | with_reducible assumption | omega), sF_comm (f := 2) (g := f) (by first | with_reducible assumption | omega)]
    else rw [sF_cm2 (a := 19) (b := c) (f := 6) (Ne.symm hc), sF_cm2 (a := 19) (b := c) (f := 5) (Ne.symm hc), sF_cm2 (a := 19) (b := c) (f := 4) (Ne.symm hc), sF_cm2 (a := 19) (b := c) (f := 3) (Ne.symm hc), sF_cm2 (a := 19) (b := c) (f := 2) (Ne.symm hc)]
/-! THE GRAMMAR, over the tokens alone -/
abbrev pT := (Nat → Int) × (Nat → Int) × (Nat → Int) × Nat
def pT.K (T : pT) : Nat → Int := T.1
def pT.S (T : pT) : Nat → Int := T.2.1
def pT.V (T : pT) : Nat → Int := T.2.2.1
def pT.M (T : pT) : Nat := T.2.2.2
/-- which token, which fault, where -/
abbrev pG := Nat × Int × Int
def pGm (t : Nat) (f p : Int) : pG := (t, f, p)
def pG.t (g : pG) : Nat := g.1
def pG.f (g : pG) : Int := g.2.1
def pG.p (g : pG) : Int := g.2.2
/-- the tokens lie in the class's rows -/
def tkH (H : mzH) (T : pT) : Prop := (∀ t, t ≤ T.M → (aZ H 21 t).toInt = T.K t ∧ (aZ H 22 t).toInt = T.S t ∧ (aZ H 23 t).toInt = T.V t) ∧ (fZ H 20 4).toInt = (T.M : Int) + 1
/-- the class's Reader stands at g -/
def rdX (T : pT) (g : pG) (x0 x1 x2 x3 x4 : Int32) : Prop := x0.toInt = (g.t : Int) ∧ x1.toInt = T.K g.t ∧ x2.toInt = T.V g.t ∧ x3.toInt = g.f ∧ x4.toInt = g.p ∧ g.t ≤ T.M
def gtP (T : pT) (a x0 x1 x2 y0 y1 y2 : Int32) : Prop := (a.toInt ≤ (T.M : Int) → y0 = a ∧ y1.toInt = T.K a.toInt.toNat ∧ y2.toInt = T.V a.toInt.toNat) ∧ ((T.M : Int) < a.toInt → y0 = x0 ∧ y1 = x1 ∧ y2 = x2)
def pFail (T : pT) (n : Int) (g : pG) : pG := if g.f = 0 then pGm g.t n (T.S g.t) else g
theorem pF_pos {T : pT} {n : Int} {g : pG} (h : g.f = 0) : pFail T n g = pGm g.t n (T.S g.t) := if_pos h
theorem pF_neg {T : pT} {n : Int} {g : pG} (h : ¬ g.f = 0) : pFail T n g = g := if_neg h
theorem pF_ne {T : pT} {n : Int} {g : pG} (h : n ≠ 0) : (pFail T n g).f ≠ 0 ∧ (pFail T n g).t = g.t := by
  unfold pFail
  split
  · exact ⟨h, rfl⟩
  · rename_i c
    exact ⟨c, rfl⟩
def pGo (T : pT) (g : pG) : pG := if g.t + 1 ≤ T.M then pGm (g.t + 1) g.f g.p else g
theorem rd_go {T : pT} {g : pG} {a x0 x1 x2 x3 x4 y0 y1 y2 : Int32} (h : rdX T g x0 x1 x2 x3 x4) (ha : a.toInt = x0.toInt + 1) (hg : gtP T a x0 x1 x2 y0 y1 y2) : rdX T (pGo T g) y0 y1 y2 x3 x4 := by
  obtain ⟨r0, r1, r2, r3, r4, r5⟩ := h
  unfold pGo
  split
  · obtain ⟨e0, e1, e2⟩ := hg.1 (by first | with_reducible assumption | omega)
    have e : a.toInt.toNat = g.t + 1 := by omega
    rw [e] at e1 e2
    exact ⟨by rw [e0]; show a.toInt = ((g.t + 1 : Nat) : Int); omega, e1, e2, r3, r4, by show g.t + 1 ≤ T.M; omega⟩
  · obtain ⟨e0, e1, e2⟩ := hg.2 (by first | with_reducible assumption | omega)
    rw [e0, e1, e2]
    exact ⟨r0, r1, r2, r3, r4, r5⟩
def pTake (T : pT) (lo hi : Int) (g : pG) : pG := if T.K g.t < lo ∨ hi < T.K g.t then pFail T 1 g else if g.f ≠ 0 then g else pGo T g
theorem pGo_f {T : pT} {g : pG} : (pGo T g).f = g.f := by
  unfold pGo
  split <;> rfl
theorem pT_v1 {T : pT} {lo hi v : Int} {g : pG} (h : T.K g.t < lo ∨ hi < T.K g.t) (hv : v = lo) : ((pTake T lo hi g).f ≠ 0 ∧ v = lo) ∨ ((pTake T lo hi g).f = 0 ∧ g.f = 0 ∧ v = T.K g.t ∧ lo ≤ T.K g.t ∧ T.K g.t ≤ hi) := by
  left
  unfold pTake
  rw [if_pos h]
  exact ⟨(pF_ne (by decide)).1, hv⟩
theorem pT_v2 {T : pT} {lo hi v : Int} {g : pG} (h : ¬ (T.K g.t < lo ∨ hi < T.K g.t)) (hf : g.f ≠ 0) (hv : v = lo) : ((pTake T lo hi g).f ≠ 0 ∧ v = lo) ∨ ((pTake T lo hi g).f = 0 ∧ g.f = 0 ∧ v = T.K g.t ∧ lo ≤ T.K g.t ∧ T.K g.t ≤ hi) := by
  left
  unfold pTake
  rw [if_neg h, if_pos hf]
  exact ⟨hf, hv⟩
theorem pT_v3 {T : pT} {lo hi v : Int} {g : pG} (h : ¬ (T.K g.t < lo ∨ hi < T.K g.t)) (hf : g.f = 0) (hv : v = T.K g.t) : ((pTake T lo hi g).f ≠ 0 ∧ v = lo) ∨ ((pTake T lo hi g).f = 0 ∧ g.f = 0 ∧ v = T.K g.t ∧ lo ≤ T.K g.t ∧ T.K g.t ≤ hi) := by
  right
  unfold pTake
  rw [if_neg h, if_neg (fun c => c hf), pGo_f]
  omega
def pNumb (T : pT) (lo hi : Int) (g : pG) : pG := if T.K g.t = 19 ∧ (T.V g.t < lo ∨ hi < T.V g.t) then pTake T 19 19 (pFail T 2 g) else pTake T 19 19 g
/-- what is told -/
abbrev pB := Int × Int × Int × Int × Int × Int × (Nat → Int) × (Nat → Int) × (Nat → Int) × (Nat → Int) × (Nat → Int) × (Nat → Int)
def pBm (P R N U C F : Int) (nm hr ac fi se ki : Nat → Int) : pB := (P, R, N, U, C, F, nm, hr, ac, fi, se, ki)
def pB.P (b : pB) : Int := b.1
def pB.R (b : pB) : Int := b.2.1
def pB.N (b : pB) : Int := b.2.2.1
def pB.U (b : pB) : Int := b.2.2.2.1
def pB.C (b : pB) : Int := b.2.2.2.2.1
def pB.F (b : pB) : Int := b.2.2.2.2.2.1
def pB.nm (b : pB) : Nat → Int := b.2.2.2.2.2.2.1
def pB.hr (b : pB) : Nat → Int := b.2.2.2.2.2.2.2.1
def pB.ac (b : pB) : Nat → Int := b.2.2.2.2.2.2.2.2.1
def pB.fi (b : pB) : Nat → Int := b.2.2.2.2.2.2.2.2.2.1
def pB.se (b : pB) : Nat → Int := b.2.2.2.2.2.2.2.2.2.2.1
def pB.ki (b : pB) : Nat → Int := b.2.2.2.2.2.2.2.2.2.2.2
/-- the class's book (its object at c) -/
def bkX (H : mzH) (c : Nat) (b : pB) : Prop := (fZ H c 7).toInt = b.P ∧ (fZ H c 8).toInt = b.R ∧ (fZ H c 9).toInt = b.N ∧ (fZ H c 10).toInt = b.U ∧ (fZ H c 11).toInt = b.C ∧ (fZ H c 12).toInt = b.F ∧ (∀ p : Nat, (p : Int) < b.P → (aZ H (c + 1) p).toInt = b.nm p) ∧ (∀ k : Nat, (k : Int) < b.N → (aZ H (c + 3) k).toInt = b.hr k ∧ (aZ H (c + 4) k).toInt = b.ac k ∧ (aZ H (c + 5) k).toInt = b.fi k ∧ (aZ H (c + 6) k).toInt = b.se k ∧ (aZ H (c + 7) k).toInt = b.ki k) ∧ (0 ≤ b.R ∧ b.R ≤ 12)
/-- the place of a name; -2 -/
def pNm (nm : Nat → Int) (w : Int) : Nat → Int
  | 0 => -2
  | P + 1 => if pNm nm w P = -2 then (if nm P = w then (P : Int) else -2) else pNm nm w P
def pnI (nm : Nat → Int) (w : Int) (p : Nat) : Prop := ∀ k, k < p → nm k ≠ w
theorem pn_0 {nm : Nat → Int} {w : Int} {p : Nat} (h : p = 0) : pnI nm w p := fun k hk => by omega
theorem pn_st {nm : Nat → Int} {w : Int} {p q : Nat} (h : pnI nm w p) (hq : q = p + 1) (hn : nm p ≠ w) : pnI nm w q := fun k hk => by
  if e : k = p then
    rw [e]
    exact hn
  else exact h k (by first | with_reducible assumption | omega)
theorem pn_no {nm : Nat → Int} {w : Int} : ∀ {p : Nat}, pnI nm w p → pNm nm w p = -2
  | 0, _ => rfl
  | p + 1, h => by
    unfold pNm
    rw [if_pos (pn_no (fun k hk => h k (by first | with_reducible assumption | omega))), if_neg (h p (by first | with_reducible assumption | omega))]
theorem pn_end {nm : Nat → Int} {w v : Int} {p P : Nat} (h : pnI nm w p) (hp : p = P) (hv : v = -2) : v = pNm nm w P := by
  subst hp
  rw [pn_no h]
  exact hv
theorem pn_up {nm : Nat → Int} {w : Int} {p : Nat} (h : pnI nm w p) (hn : nm p = w) : ∀ {P : Nat}, p < P → pNm nm w P = p
  | 0, hl => absurd hl (Nat.not_lt_zero _)
  | P + 1, hl => by
    unfold pNm
    if e : p = P then
      subst e
      rw [if_pos (pn_no h), if_pos hn]
    else
      rw [pn_up h hn (P := P) (by first | with_reducible assumption | omega), if_neg (by first | with_reducible assumption | omega)]
theorem pn_hit {nm : Nat → Int} {w v : Int} {p P : Nat} (h : pnI nm w p) (hp : p < P) (hn : nm p = w) (hv : v = p) : v = pNm nm w P := by
  rw [pn_up h hn hp]
  exact hv
def pPl (nm : Nat → Int) (P : Int) (T : pT) (g : pG) : Int := if T.K g.t = 18 then pNm nm (T.V g.t) P.toNat else -2
def pPlc (nm : Nat → Int) (P : Int) (T : pT) (but : Int) (g : pG) : pG := if pPl nm P T g = -2 then pTake T 18 18 (pFail T 1 g) else if pPl nm P T g = but then pTake T 18 18 (pFail T 3 g) else pTake T 18 18 g
theorem pT_ok {T : pT} {lo hi : Int} {g : pG} : (pTake T lo hi g).f ≠ 0 ∨ ((pTake T lo hi g).f = 0 ∧ g.f = 0 ∧ lo ≤ T.K g.t ∧ T.K g.t ≤ hi) := by
  unfold pTake
  split
  · exact Or.inl (pF_ne (by decide)).1
  · split
    · rename_i h
      exact Or.inl h
    · rename_i h1 h2
      rw [pGo_f]
      right
      omega
theorem pN_ok {T : pT} {lo hi : Int} {g : pG} : (pNumb T lo hi g).f ≠ 0 ∨ ((pNumb T lo hi g).f = 0 ∧ g.f = 0 ∧ T.K g.t = 19 ∧ lo ≤ T.V g.t ∧ T.V g.t ≤ hi) := by
  unfold pNumb
  split
  · rcases pT_ok (T := T) (lo := 19) (hi := 19) (g := pFail T 2 g) with h | ⟨_, h, _⟩
    · exact Or.inl h
    · exact absurd h (pF_ne (by decide)).1
  · rcases pT_ok (T := T) (lo := 19) (hi := 19) (g := g) with h | ⟨h0, h1, h2, h3⟩
    · exact Or.inl h
    · right
      omega
theorem pP_ok {nm : Nat → Int} {P : Int} {T : pT} {but : Int} {g : pG} : (pPlc nm P T but g).f ≠ 0 ∨ ((pPlc nm P T but g).f = 0 ∧ g.f = 0 ∧ T.K g.t = 18 ∧ pPl nm P T g ≠ -2 ∧ pPl nm P T g ≠ but) := by
  unfold pPlc
  split
  · rcases pT_ok (T := T) (lo := 18) (hi := 18) (g := pFail T 1 g) with h | ⟨_, h, _⟩
    · exact Or.inl h
    · exact absurd h (pF_ne (by decide)).1
  · split
    · rcases pT_ok (T := T) (lo := 18) (hi := 18) (g := pFail T 3 g) with h | ⟨_, h, _⟩
      · exact Or.inl h
      · exact absurd h (pF_ne (by decide)).1
    · rcases pT_ok (T := T) (lo := 18) (hi := 18) (g := g) with h | ⟨h0, h1, h2, h3⟩
      · exact Or.inl h
      · right
        refine ⟨h0, h1, by omega, by assumption, by assumption⟩
def pAct (T : pT) (g : pG) : pG := if T.K g.t = 4 then pTake T 4 4 g else pTake T 8 17 g
def pActV (T : pT) (g : pG) : Int := if T.K g.t = 4 then 0 else if (pTake T 8 17 g).f ≠ 0 then 1 else T.K g.t - 7
set_option maxRecDepth 4000 in
set_option maxHeartbeats 4000000 in
/-- X4.goTo, exactly -/
theorem f_39 (a1 : Int32) (ha1 : 0 ≤ a1.toInt ∧ a1.toInt ≤ 901) (H : mzH) (hI : gI SX H) (hJ : JX H) (x0 x1 x2 x3 x4 : Int32) (hx0 : 0 ≤ x0.toInt ∧ x0.toInt ≤ 900) {T : pT} (hp0 : tkH H T) : gCall 39 [.ref 19, .int a1] (rS H x0 x1 x2 x3 x4) (gRv (fun H' => ∃ y0 y1 y2 : Int32, H' = rS H y0 y1 y2 x3 x4 ∧ (0 ≤ y0.toInt ∧ y0.toInt ≤ 900) ∧ gtP T a1 x0 x1 x2 y0 y1 y2)) := by
  have w0 := hp0.2
  refine gG_call [(0, .ref 19), (1, .int a1)] ⟨rfl, rfl, trivial⟩ ?_
  show gG 2 zB_39 (mzBlk zB_39 0) [(0, .ref 19), (1, .int a1)] [] (rS H x0 x1 x2 x3 x4) 0 0 _
  refine g_iload_n rfl ?_
  refine g_aload_n rfl ?_
  refine g_gfr (rS_I hI (by first | with_reducible assumption | omega)) sx_19 rfl ?_
  refine g_gfi (rS_I hI (by first | with_reducible assumption | omega)) sx_20 rfl (fun v29 ev29 lv29 uv29 => ?_)
  have iv29 : v29.toInt = (fZ H 20 4).toInt := by rw [ev29, ← rS_o (by decide)]
  refine g_if2_ge (fun c30 => ?_) (fun c30 => ?_)
  · exact g_ret ⟨rfl, x0, x1, x2, rfl, (by first | with_reducible assumption | omega), ⟨fun h => absurd h (by first | with_reducible assumption | omega), fun _ => ⟨rfl, rfl, rfl⟩⟩⟩
  · refine g_aload_n rfl ?_
    refine g_iload_n rfl ?_
    refine g_pfi (rS_I hI (by first | with_reducible assumption | omega)) sx_19 rfl (by first | with_reducible assumption | omega) (fun H31 eH31 hIH31 => ?_)
    obtain rfl : H31 = (rS H a1 x1 x2 x3 x4) := eH31.trans (rS_s2 hI)
    refine g_aload_n rfl ?_
    refine g_aload_n rfl ?_
    refine g_gfr (rS_I hI (by first | with_reducible assumption | omega)) sx_19 rfl ?_
    refine g_gfr (rS_I hI (by first | with_reducible assumption | omega)) sx_20 rfl ?_
    refine g_iload_n rfl ?_
    refine g_iaload (rS_I hI (by first | with_reducible assumption | omega)) sx_21 rfl (by first | with_reducible assumption | omega) (fun v32 ev32 lv32 uv32 => ?_)
    have dv32 : v32 = aZ H 21 a1.toInt.toNat := ev32.trans rS_a
    have tv32 : v32.toInt = (aZ H 21 a1.toInt.toNat).toInt := by rw [dv32]
    refine g_pfi (rS_I hI (by first | with_reducible assumption | omega)) sx_19 rfl (gz_any _) (fun H33 eH33 hIH33 => ?_)
    obtain rfl : H33 = (rS H a1 v32 x2 x3 x4) := eH33.trans (rS_s3 hI)
    refine g_aload_n rfl ?_
    refine g_aload_n rfl ?_
    refine g_gfr (rS_I hI (by first | with_reducible assumption | omega)) sx_19 rfl ?_
    refine g_gfr (rS_I hI (by first | with_reducible assumption | omega)) sx_20 rfl ?_
    refine g_iload_n rfl ?_
    refine g_iaload (rS_I hI (by first | with_reducible assumption | omega)) sx_23 rfl (by first | with_reducible assumption | omega) (fun v34 ev34 lv34 uv34 => ?_)
    have dv34 : v34 = aZ H 23 a1.toInt.toNat := ev34.trans rS_a
    have tv34 : v34.toInt = (aZ H 23 a1.toInt.toNat).toInt := by rw [dv34]
    refine g_pfi (rS_I hI (by first | with_reducible assumption | omega)) sx_19 rfl (gz_any _) (fun H35 eH35 hIH35 => ?_)
    obtain rfl : H35 = (rS H a1 v32 v34 x3 x4) := eH35.trans (rS_s4 hI)
    refine g_nop ?_
    exact g_ret ⟨rfl, a1, v32, v34, rfl, (by first | with_reducible assumption | omega), ⟨fun h => ⟨rfl, tv32.trans (hp0.1 _ (by first | with_reducible assumption | omega)).1, tv34.trans (hp0.1 _ (by first | with_reducible assumption | omega)).2.2⟩, fun h => absurd h (by first | with_reducible assumption | omega)⟩⟩
set_option maxRecDepth 4000 in
set_option maxHeartbeats 4000000 in
/-- X4.fail, exactly -/
theorem f_40 (a1 : Int32) (ha1 : 1 ≤ a1.toInt ∧ a1.toInt ≤ 3) (H : mzH) (hI : gI SX H) (hJ : JX H) (x0 x1 x2 x3 x4 : Int32) (hx0 : 0 ≤ x0.toInt ∧ x0.toInt ≤ 900) {T : pT} {g : pG} (hp0 : tkH H T) (hp1 : rdX T g x0 x1 x2 x3 x4) : gCall 40 [.ref 19, .int a1] (rS H x0 x1 x2 x3 x4) (gRv (fun H' => ∃ y3 y4 : Int32, H' = rS H x0 x1 x2 y3 y4 ∧ rdX T (pFail T a1.toInt g) x0 x1 x2 y3 y4)) := by
  obtain ⟨r0, r1, r2, r3, r4, r5⟩ := id hp1
  have w0 := hp0.2
  refine gG_call [(0, .ref 19), (1, .int a1)] ⟨rfl, rfl, trivial⟩ ?_
  show gG 2 zB_40 (mzBlk zB_40 0) [(0, .ref 19), (1, .int a1)] [] (rS H x0 x1 x2 x3 x4) 0 0 _
  refine g_aload_n rfl ?_
  refine g_gfk (rS_I hI (by first | with_reducible assumption | omega)) sx_19 rfl (rS_g5 hI) ?_
  refine g_if_ne (fun c17 => ?_) (fun c17 => ?_)
  · exact g_ret ⟨rfl, x3, x4, rfl, (by rw [pF_neg (by first | with_reducible assumption | omega)]; exact hp1)⟩
  · refine g_aload_n rfl ?_
    refine g_iload_n rfl ?_
    refine g_pfi (rS_I hI (by first | with_reducible assumption | omega)) sx_19 rfl (gz_any _) (fun H18 eH18 hIH18 => ?_)
    obtain rfl : H18 = (rS H x0 x1 x2 a1 x4) := eH18.trans (rS_s5 hI)
    refine g_aload_n rfl ?_
    refine g_aload_n rfl ?_
    refine g_gfr (rS_I hI (by first | with_reducible assumption | omega)) sx_19 rfl ?_
    refine g_gfr (rS_I hI (by first | with_reducible assumption | omega)) sx_20 rfl ?_
    refine g_aload_n rfl ?_
    refine g_gfk (rS_I hI (by first | with_reducible assumption | omega)) sx_19 rfl (rS_g2 hI) ?_
    refine g_iaload (rS_I hI (by first | with_reducible assumption | omega)) sx_22 rfl (by first | with_reducible assumption | omega) (fun v19 ev19 lv19 uv19 => ?_)
    have dv19 : v19 = aZ H 22 x0.toInt.toNat := ev19.trans rS_a
    have tv19 : v19.toInt = (aZ H 22 x0.toInt.toNat).toInt := by rw [dv19]
    refine g_pfi (rS_I hI (by first | with_reducible assumption | omega)) sx_19 rfl (gz_any _) (fun H20 eH20 hIH20 => ?_)
    obtain rfl : H20 = (rS H x0 x1 x2 a1 v19) := eH20.trans (rS_s6 hI)
    refine g_nop ?_
    exact g_ret ⟨rfl, a1, v19, rfl, (by rw [pF_pos (by first | with_reducible assumption | omega)]; exact ⟨r0, r1, r2, rfl, tv19.trans ((hp0.1 _ (by first | with_reducible assumption | omega)).2.1.trans (by rw [show x0.toInt.toNat = g.t by omega]; rfl)), r5⟩)⟩
set_option maxRecDepth 4000 in
set_option maxHeartbeats 4000000 in
/-- X4.take, exactly -/
theorem f_50 (a1 : Int32) (a2 : Int32) (H : mzH) (hI : gI SX H) (hJ : JX H) (x0 x1 x2 x3 x4 : Int32) (hx0 : 0 ≤ x0.toInt ∧ x0.toInt ≤ 900) {T : pT} {g : pG} (hp0 : tkH H T) (hp1 : rdX T g x0 x1 x2 x3 x4) : gCall 50 [.ref 19, .int a1, .int a2] (rS H x0 x1 x2 x3 x4) (gRi (fun v H' => ∃ y0 y1 y2 y3 y4 : Int32, H' = rS H y0 y1 y2 y3 y4 ∧ (0 ≤ y0.toInt ∧ y0.toInt ≤ 900) ∧ rdX T (pTake T a1.toInt a2.toInt g) y0 y1 y2 y3 y4 ∧ (((pTake T a1.toInt a2.toInt g).f ≠ 0 ∧ v.toInt = a1.toInt) ∨ ((pTake T a1.toInt a2.toInt g).f = 0 ∧ g.f = 0 ∧ v.toInt = T.K g.t ∧ a1.toInt ≤ T.K g.t ∧ T.K g.t ≤ a2.toInt)))) := by
  obtain ⟨r0, r1, r2, r3, r4, r5⟩ := id hp1
  have w0 := hp0.2
  refine gG_call [(0, .ref 19), (1, .int a1), (2, .int a2)] ⟨rfl, rfl, rfl, trivial⟩ ?_
  show gG 4 zB_50 (mzBlk zB_50 0) [(0, .ref 19), (1, .int a1), (2, .int a2)] [] (rS H x0 x1 x2 x3 x4) 0 0 _
  refine g_aload_n rfl ?_
  refine g_gfk (rS_I hI (by first | with_reducible assumption | omega)) sx_19 rfl (rS_g3 hI) ?_
  refine g_istore_n (l' := [(0, .ref 19), (1, .int a1), (2, .int a2), (3, .int x1)]) rfl rfl ?_
  refine g_iload_n rfl ?_
  refine g_iload_n rfl ?_
  refine g_if2_lt (fun c165 => ?_) (fun c165 => ?_)
  · refine g_aload_n rfl ?_
    refine g_iconst (by decide) (fun v166 kv166 => ?_)
    refine g_invvv (rS_I hI (by first | with_reducible assumption | omega)) sx_19 rfl rfl rfl rfl (f_40 v166 (by first | with_reducible assumption | omega) H hI hJ x0 x1 x2 x3 x4 (by first | with_reducible assumption | omega) hp0 hp1) (fun H167 r168 => ?_)
    obtain ⟨y169, y170, rfl, zp171⟩ := r168
    rw [kv166] at zp171
    obtain ⟨razp171, rbzp171, rczp171, rdzp171, rezp171, rfzp171⟩ := id zp171
    have nzp171 := pF_ne (T := T) (g := g) (n := 1) (by first | with_reducible assumption | omega)
    refine g_nop ?_
    refine g_aload_n rfl ?_
    refine g_gfk (rS_I hI (by first | with_reducible assumption | omega)) sx_19 rfl (rS_g5 hI) ?_
    refine g_if_eq (fun c172 => ?_) (fun c172 => ?_)
    · refine g_aload_n rfl ?_
      refine g_aload_n rfl ?_
      refine g_gfk (rS_I hI (by first | with_reducible assumption | omega)) sx_19 rfl (rS_g2 hI) ?_
      refine g_iconst (by decide) (fun v173 kv173 => ?_)
      refine g_iadd (by first | with_reducible assumption | omega) (fun v174 ev174 => ?_)
      refine g_invvv (rS_I hI (by first | with_reducible assumption | omega)) sx_19 rfl rfl rfl rfl (f_39 v174 (by first | with_reducible assumption | omega) H hI hJ x0 x1 x2 y169 y170 (by first | with_reducible assumption | omega) hp0) (fun H175 r176 => ?_)
      obtain ⟨y177, y178, y179, rfl, by177, zp180⟩ := r176
      refine g_iload_n rfl ?_
      exact g_iret ⟨_, rfl, y177, y178, y179, y169, y170, rfl, (by first | with_reducible assumption | omega), (by exfalso; omega), (by exfalso; omega)⟩
    · refine g_iload_n rfl ?_
      exact g_iret ⟨_, rfl, x0, x1, x2, y169, y170, rfl, (by first | with_reducible assumption | omega), (by unfold pTake; rw [if_pos (by first | with_reducible assumption | omega)]; exact zp171), (pT_v1 (by first | with_reducible assumption | omega) (by first | with_reducible assumption | omega))⟩
  · refine g_iload_n rfl ?_
    refine g_iload_n rfl ?_
    refine g_if2_le (fun c181 => ?_) (fun c181 => ?_)
    · refine g_aload_n rfl ?_
      refine g_gfk (rS_I hI (by first | with_reducible assumption | omega)) sx_19 rfl (rS_g5 hI) ?_
      refine g_if_eq (fun c182 => ?_) (fun c182 => ?_)
      · refine g_aload_n rfl ?_
        refine g_aload_n rfl ?_
        refine g_gfk (rS_I hI (by first | with_reducible assumption | omega)) sx_19 rfl (rS_g2 hI) ?_
        refine g_iconst (by decide) (fun v183 kv183 => ?_)
        refine g_iadd (by first | with_reducible assumption | omega) (fun v184 ev184 => ?_)
        refine g_invvv (rS_I hI (by first | with_reducible assumption | omega)) sx_19 rfl rfl rfl rfl (f_39 v184 (by first | with_reducible assumption | omega) H hI hJ x0 x1 x2 x3 x4 (by first | with_reducible assumption | omega) hp0) (fun H185 r186 => ?_)
        obtain ⟨y187, y188, y189, rfl, by187, zp190⟩ := r186
        refine g_iload_n rfl ?_
        exact g_iret ⟨_, rfl, y187, y188, y189, x3, x4, rfl, (by first | with_reducible assumption | omega), (by unfold pTake; rw [if_neg (by first | with_reducible assumption | omega), if_neg (by first | with_reducible assumption | omega)]; exact rd_go hp1 (by first | with_reducible assumption | omega) zp190), (pT_v3 (by first | with_reducible assumption | omega) (by first | with_reducible assumption | omega) (by first | with_reducible assumption | omega))⟩
      · refine g_iload_n rfl ?_
        exact g_iret ⟨_, rfl, x0, x1, x2, x3, x4, rfl, (by first | with_reducible assumption | omega), (by unfold pTake; rw [if_neg (by first | with_reducible assumption | omega), if_pos (by first | with_reducible assumption | omega)]; exact hp1), (pT_v2 (by first | with_reducible assumption | omega) (by first | with_reducible assumption | omega) (by first | with_reducible assumption | omega))⟩
    · refine g_nop ?_
      refine g_aload_n rfl ?_
      refine g_iconst (by decide) (fun v191 kv191 => ?_)
      refine g_invvv (rS_I hI (by first | with_reducible assumption | omega)) sx_19 rfl rfl rfl rfl (f_40 v191 (by first | with_reducible assumption | omega) H hI hJ x0 x1 x2 x3 x4 (by first | with_reducible assumption | omega) hp0 hp1) (fun H192 r193 => ?_)
      obtain ⟨y194, y195, rfl, zp196⟩ := r193
      rw [kv191] at zp196
      obtain ⟨razp196, rbzp196, rczp196, rdzp196, rezp196, rfzp196⟩ := id zp196
      have nzp196 := pF_ne (T := T) (g := g) (n := 1) (by first | with_reducible assumption | omega)
      refine g_nop ?_
      refine g_aload_n rfl ?_
      refine g_gfk (rS_I hI (by first | with_reducible assumption | omega)) sx_19 rfl (rS_g5 hI) ?_
      refine g_if_eq (fun c197 => ?_) (fun c197 => ?_)
      · refine g_aload_n rfl ?_
        refine g_aload_n rfl ?_
        refine g_gfk (rS_I hI (by first | with_reducible assumption | omega)) sx_19 rfl (rS_g2 hI) ?_
        refine g_iconst (by decide) (fun v198 kv198 => ?_)
        refine g_iadd (by first | with_reducible assumption | omega) (fun v199 ev199 => ?_)
        refine g_invvv (rS_I hI (by first | with_reducible assumption | omega)) sx_19 rfl rfl rfl rfl (f_39 v199 (by first | with_reducible assumption | omega) H hI hJ x0 x1 x2 y194 y195 (by first | with_reducible assumption | omega) hp0) (fun H200 r201 => ?_)
        obtain ⟨y202, y203, y204, rfl, by202, zp205⟩ := r201
        refine g_iload_n rfl ?_
        exact g_iret ⟨_, rfl, y202, y203, y204, y194, y195, rfl, (by first | with_reducible assumption | omega), (by exfalso; omega), (by exfalso; omega)⟩
      · refine g_iload_n rfl ?_
        exact g_iret ⟨_, rfl, x0, x1, x2, y194, y195, rfl, (by first | with_reducible assumption | omega), (by unfold pTake; rw [if_pos (by first | with_reducible assumption | omega)]; exact zp196), (pT_v1 (by first | with_reducible assumption | omega) (by first | with_reducible assumption | omega))⟩
set_option maxRecDepth 4000 in
set_option maxHeartbeats 4000000 in
/-- X4.takeNumber, exactly -/
theorem f_48 (a1 : Int32) (a2 : Int32) (H : mzH) (hI : gI SX H) (hJ : JX H) (x0 x1 x2 x3 x4 : Int32) (hx0 : 0 ≤ x0.toInt ∧ x0.toInt ≤ 900) {T : pT} {g : pG} (hp0 : tkH H T) (hp1 : rdX T g x0 x1 x2 x3 x4) : gCall 48 [.ref 19, .int a1, .int a2] (rS H x0 x1 x2 x3 x4) (gRi (fun v H' => ∃ y0 y1 y2 y3 y4 : Int32, H' = rS H y0 y1 y2 y3 y4 ∧ (0 ≤ y0.toInt ∧ y0.toInt ≤ 900) ∧ rdX T (pNumb T a1.toInt a2.toInt g) y0 y1 y2 y3 y4 ∧ v.toInt = T.V g.t)) := by
  obtain ⟨r0, r1, r2, r3, r4, r5⟩ := id hp1
  have w0 := hp0.2
  refine gG_call [(0, .ref 19), (1, .int a1), (2, .int a2)] ⟨rfl, rfl, rfl, trivial⟩ ?_
  show gG 4 zB_48 (mzBlk zB_48 0) [(0, .ref 19), (1, .int a1), (2, .int a2)] [] (rS H x0 x1 x2 x3 x4) 0 0 _
  refine g_aload_n rfl ?_
  refine g_gfk (rS_I hI (by first | with_reducible assumption | omega)) sx_19 rfl (rS_g4 hI) ?_
  refine g_istore_n (l' := [(0, .ref 19), (1, .int a1), (2, .int a2), (3, .int x2)]) rfl rfl ?_
  refine g_aload_n rfl ?_
  refine g_gfk (rS_I hI (by first | with_reducible assumption | omega)) sx_19 rfl (rS_g3 hI) ?_
  refine g_bipush (by decide) (fun v257 kv257 => ?_)
  refine g_if2_ne (fun c258 => ?_) (fun c258 => ?_)
  · refine g_aload_n rfl ?_
    refine g_bipush (by decide) (fun v259 kv259 => ?_)
    refine g_bipush (by decide) (fun v260 kv260 => ?_)
    refine g_invvi (rS_I hI (by first | with_reducible assumption | omega)) sx_19 rfl rfl rfl rfl (f_50 v259 v260 H hI hJ x0 x1 x2 x3 x4 (by first | with_reducible assumption | omega) hp0 hp1) (fun v263 H261 r262 => ?_)
    obtain ⟨y264, y265, y266, y267, y268, rfl, by264, zp269, zp270⟩ := r262
    rw [kv259] at zp269
    rw [kv259] at zp270
    rw [kv260] at zp269
    rw [kv260] at zp270
    obtain ⟨razp269, rbzp269, rczp269, rdzp269, rezp269, rfzp269⟩ := id zp269
    refine g_pop rfl ?_
    refine g_iload_n rfl ?_
    exact g_iret ⟨_, rfl, y264, y265, y266, y267, y268, rfl, (by first | with_reducible assumption | omega), (by unfold pNumb; first | (rw [if_pos (by first | with_reducible assumption | omega)]; exact zp269) | (rw [if_neg (by first | with_reducible assumption | omega)]; exact zp269)), (by first | with_reducible assumption | omega)⟩
  · refine g_iload_n rfl ?_
    refine g_iload_n rfl ?_
    refine g_if2_lt (fun c271 => ?_) (fun c271 => ?_)
    · refine g_aload_n rfl ?_
      refine g_iconst (by decide) (fun v272 kv272 => ?_)
      refine g_invvv (rS_I hI (by first | with_reducible assumption | omega)) sx_19 rfl rfl rfl rfl (f_40 v272 (by first | with_reducible assumption | omega) H hI hJ x0 x1 x2 x3 x4 (by first | with_reducible assumption | omega) hp0 hp1) (fun H273 r274 => ?_)
      obtain ⟨y275, y276, rfl, zp277⟩ := r274
      rw [kv272] at zp277
      obtain ⟨razp277, rbzp277, rczp277, rdzp277, rezp277, rfzp277⟩ := id zp277
      have nzp277 := pF_ne (T := T) (g := g) (n := 2) (by first | with_reducible assumption | omega)
      refine g_nop ?_
      refine g_aload_n rfl ?_
      refine g_bipush (by decide) (fun v278 kv278 => ?_)
      refine g_bipush (by decide) (fun v279 kv279 => ?_)
      refine g_invvi (rS_I hI (by first | with_reducible assumption | omega)) sx_19 rfl rfl rfl rfl (f_50 v278 v279 H hI hJ x0 x1 x2 y275 y276 (by first | with_reducible assumption | omega) hp0 zp277) (fun v282 H280 r281 => ?_)
      obtain ⟨y283, y284, y285, y286, y287, rfl, by283, zp288, zp289⟩ := r281
      rw [kv278] at zp288
      rw [kv278] at zp289
      rw [kv279] at zp288
      rw [kv279] at zp289
      obtain ⟨razp288, rbzp288, rczp288, rdzp288, rezp288, rfzp288⟩ := id zp288
      refine g_pop rfl ?_
      refine g_iload_n rfl ?_
      exact g_iret ⟨_, rfl, y283, y284, y285, y286, y287, rfl, (by first | with_reducible assumption | omega), (by unfold pNumb; first | (rw [if_pos (by first | with_reducible assumption | omega)]; exact zp288) | (rw [if_neg (by first | with_reducible assumption | omega)]; exact zp288)), (by first | with_reducible assumption | omega)⟩
    · refine g_iload_n rfl ?_
      refine g_iload_n rfl ?_
      refine g_if2_le (fun c290 => ?_) (fun c290 => ?_)
      · refine g_aload_n rfl ?_
        refine g_bipush (by decide) (fun v291 kv291 => ?_)
        refine g_bipush (by decide) (fun v292 kv292 => ?_)
        refine g_invvi (rS_I hI (by first | with_reducible assumption | omega)) sx_19 rfl rfl rfl rfl (f_50 v291 v292 H hI hJ x0 x1 x2 x3 x4 (by first | with_reducible assumption | omega) hp0 hp1) (fun v295 H293 r294 => ?_)
        obtain ⟨y296, y297, y298, y299, y300, rfl, by296, zp301, zp302⟩ := r294
        rw [kv291] at zp301
        rw [kv291] at zp302
        rw [kv292] at zp301
        rw [kv292] at zp302
        obtain ⟨razp301, rbzp301, rczp301, rdzp301, rezp301, rfzp301⟩ := id zp301
        refine g_pop rfl ?_
        refine g_iload_n rfl ?_
        exact g_iret ⟨_, rfl, y296, y297, y298, y299, y300, rfl, (by first | with_reducible assumption | omega), (by unfold pNumb; first | (rw [if_pos (by first | with_reducible assumption | omega)]; exact zp301) | (rw [if_neg (by first | with_reducible assumption | omega)]; exact zp301)), (by first | with_reducible assumption | omega)⟩
      · refine g_nop ?_
        refine g_aload_n rfl ?_
        refine g_iconst (by decide) (fun v303 kv303 => ?_)
        refine g_invvv (rS_I hI (by first | with_reducible assumption | omega)) sx_19 rfl rfl rfl rfl (f_40 v303 (by first | with_reducible assumption | omega) H hI hJ x0 x1 x2 x3 x4 (by first | with_reducible assumption | omega) hp0 hp1) (fun H304 r305 => ?_)
        obtain ⟨y306, y307, rfl, zp308⟩ := r305
        rw [kv303] at zp308
        obtain ⟨razp308, rbzp308, rczp308, rdzp308, rezp308, rfzp308⟩ := id zp308
        have nzp308 := pF_ne (T := T) (g := g) (n := 2) (by first | with_reducible assumption | omega)
        refine g_nop ?_
        refine g_aload_n rfl ?_
        refine g_bipush (by decide) (fun v309 kv309 => ?_)
        refine g_bipush (by decide) (fun v310 kv310 => ?_)
        refine g_invvi (rS_I hI (by first | with_reducible assumption | omega)) sx_19 rfl rfl rfl rfl (f_50 v309 v310 H hI hJ x0 x1 x2 y306 y307 (by first | with_reducible assumption | omega) hp0 zp308) (fun v313 H311 r312 => ?_)
        obtain ⟨y314, y315, y316, y317, y318, rfl, by314, zp319, zp320⟩ := r312
        rw [kv309] at zp319
        rw [kv309] at zp320
        rw [kv310] at zp319
        rw [kv310] at zp320
        obtain ⟨razp319, rbzp319, rczp319, rdzp319, rezp319, rfzp319⟩ := id zp319
        refine g_pop rfl ?_
        refine g_iload_n rfl ?_
        exact g_iret ⟨_, rfl, y314, y315, y316, y317, y318, rfl, (by first | with_reducible assumption | omega), (by unfold pNumb; first | (rw [if_pos (by first | with_reducible assumption | omega)]; exact zp319) | (rw [if_neg (by first | with_reducible assumption | omega)]; exact zp319)), (by first | with_reducible assumption | omega)⟩
set_option maxRecDepth 4000 in
set_option maxHeartbeats 4000000 in
/-- X1.placeNamed, exactly -/
theorem f_13 (a1 : Int32) (H : mzH) (hI : gI SX H) (hJ : JX H) (x0 x1 x2 x3 x4 : Int32) (hx0 : 0 ≤ x0.toInt ∧ x0.toInt ≤ 900) {b : pB} (hp0 : bkX H 11 b) : gCall 13 [.ref 11, .int a1] (rS H x0 x1 x2 x3 x4) (gRi (fun v H' => H' = rS H x0 x1 x2 x3 x4 ∧ (-2 ≤ v.toInt ∧ v.toInt ≤ 7) ∧ v.toInt = pNm b.nm a1.toInt b.P.toNat)) := by
  have w0 := hp0.2
  have w1 := hp0.1
  have w2 := fZ_of hI sx_11 (f := 7) rfl
  refine gG_call [(0, .ref 11), (1, .int a1)] ⟨rfl, rfl, trivial⟩ ?_
  show gG 3 zB_13 (mzBlk zB_13 0) [(0, .ref 11), (1, .int a1)] [] (rS H x0 x1 x2 x3 x4) 0 0 _
  refine g_iconst (by decide) (fun v69 kv69 => ?_)
  refine g_istore_n (l' := [(0, .ref 11), (1, .int a1), (2, .int v69)]) rfl rfl ?_
  refine g_nop ?_
  have L71 : ∀ (N : Nat) (v70 : Int32), (0 ≤ v70.toInt ∧ v70.toInt ≤ 8) → pnI b.nm a1.toInt v70.toInt.toNat → v70.toInt ≤ b.P → (8 - v70.toInt).toNat < N → gG 3 zB_13 (mzBlk zB_13 1) [(0, .ref 11), (1, .int a1), (2, .int v70)] [] (rS H x0 x1 x2 x3 x4) 0 0 (gRi (fun v H' => H' = rS H x0 x1 x2 x3 x4 ∧ (-2 ≤ v.toInt ∧ v.toInt ≤ 7) ∧ v.toInt = pNm b.nm a1.toInt b.P.toNat)) := by
    intro N
    induction N with
    | zero => intro v70 bv70 q1 q2 hmL71; exact absurd hmL71 (Nat.not_lt_zero _)
    | succ N ihL71 =>
      intro v70 bv70 q1 q2 hmL71
      refine g_iload_n rfl ?_
      refine g_aload_n rfl ?_
      refine g_gfi (rS_I hI (by first | with_reducible assumption | omega)) sx_11 rfl (fun v72 ev72 lv72 uv72 => ?_)
      have iv72 : v72.toInt = (fZ H 11 7).toInt := by rw [ev72, ← rS_o (by decide)]
      refine g_if2_ge (fun c73 => ?_) (fun c73 => ?_)
      · refine g_bipush (by decide) (fun v74 kv74 => ?_)
        exact g_iret ⟨_, rfl, rfl, (by first | with_reducible assumption | omega), (pn_end q1 (by first | with_reducible assumption | omega) (by first | with_reducible assumption | omega))⟩
      · refine g_aload_n rfl ?_
        refine g_gfr (rS_I hI (by first | with_reducible assumption | omega)) sx_11 rfl ?_
        refine g_iload_n rfl ?_
        refine g_iaload (rS_I hI (by first | with_reducible assumption | omega)) sx_12 rfl (by first | with_reducible assumption | omega) (fun v75 ev75 lv75 uv75 => ?_)
        have dv75 : v75 = aZ H 12 v70.toInt.toNat := ev75.trans rS_a
        have tv75 : v75.toInt = (aZ H 12 v70.toInt.toNat).toInt := by rw [dv75]
        have uv75 : v75.toInt = b.nm v70.toInt.toNat := tv75.trans (hp0.2.2.2.2.2.2.1 _ (by first | with_reducible assumption | omega))
        refine g_iload_n rfl ?_
        refine g_if2_ne (fun c76 => ?_) (fun c76 => ?_)
        · refine g_iinc (l' := (fun v77 => [(0, .ref 11), (1, .int a1), (2, .int v77)])) rfl rfl (by decide) (by first | with_reducible assumption | omega) (fun _ => rfl) (fun v77 ev77 => ?_)
          refine g_goto ?_
          exact ihL71 v77 (by first | with_reducible assumption | omega) (pn_st q1 (by first | with_reducible assumption | omega) (by first | with_reducible assumption | omega)) (by first | with_reducible assumption | omega) (by first | with_reducible assumption | omega)
        · refine g_iload_n rfl ?_
          exact g_iret ⟨_, rfl, rfl, (by first | with_reducible assumption | omega), (pn_hit q1 (by first | with_reducible assumption | omega) (by first | with_reducible assumption | omega) (by first | with_reducible assumption | omega))⟩
  exact L71 _ v69 (by first | with_reducible assumption | omega) (pn_0 (by first | with_reducible assumption | omega)) (by first | with_reducible assumption | omega) (Nat.lt_succ_self _)
set_option maxRecDepth 4000 in
set_option maxHeartbeats 4000000 in
/-- X4.takePlace, exactly -/
theorem f_49 (a1 : Int32) (H : mzH) (hI : gI SX H) (hJ : JX H) (x0 x1 x2 x3 x4 : Int32) (hx0 : 0 ≤ x0.toInt ∧ x0.toInt ≤ 900) {T : pT} {g : pG} {b : pB} (hp0 : tkH H T) (hp1 : rdX T g x0 x1 x2 x3 x4) (hp2 : bkX H 11 b) : gCall 49 [.ref 19, .int a1] (rS H x0 x1 x2 x3 x4) (gRi (fun v H' => ∃ y0 y1 y2 y3 y4 : Int32, H' = rS H y0 y1 y2 y3 y4 ∧ (-2 ≤ v.toInt ∧ v.toInt ≤ 7) ∧ (0 ≤ y0.toInt ∧ y0.toInt ≤ 900) ∧ rdX T (pPlc b.nm b.P T a1.toInt g) y0 y1 y2 y3 y4 ∧ v.toInt = pPl b.nm b.P T g)) := by
  obtain ⟨r0, r1, r2, r3, r4, r5⟩ := id hp1
  have w0 := hp0.2
  refine gG_call [(0, .ref 19), (1, .int a1)] ⟨rfl, rfl, trivial⟩ ?_
  show gG 3 zB_49 (mzBlk zB_49 0) [(0, .ref 19), (1, .int a1)] [] (rS H x0 x1 x2 x3 x4) 0 0 _
  refine g_aload_n rfl ?_
  refine g_gfk (rS_I hI (by first | with_reducible assumption | omega)) sx_19 rfl (rS_g3 hI) ?_
  refine g_bipush (by decide) (fun v313 kv313 => ?_)
  refine g_if2_ne (fun c314 => ?_) (fun c314 => ?_)
  · refine g_bipush (by decide) (fun v315 kv315 => ?_)
    refine g_nop ?_
    have plv315 : v315.toInt = pPl b.nm b.P T g := by unfold pPl; rw [if_neg (by first | with_reducible assumption | omega)]; exact kv315
    refine g_istore_n (l' := [(0, .ref 19), (1, .int a1), (2, .int v315)]) rfl rfl ?_
    refine g_iload_n rfl ?_
    refine g_bipush (by decide) (fun v316 kv316 => ?_)
    refine g_if2_ne (fun c317 => ?_) (fun c317 => ?_)
    · exfalso; omega
    · refine g_aload_n rfl ?_
      refine g_iconst (by decide) (fun v318 kv318 => ?_)
      refine g_invvv (rS_I hI (by first | with_reducible assumption | omega)) sx_19 rfl rfl rfl rfl (f_40 v318 (by first | with_reducible assumption | omega) H hI hJ x0 x1 x2 x3 x4 (by first | with_reducible assumption | omega) hp0 hp1) (fun H319 r320 => ?_)
      obtain ⟨y321, y322, rfl, zp323⟩ := r320
      rw [kv318] at zp323
      obtain ⟨razp323, rbzp323, rczp323, rdzp323, rezp323, rfzp323⟩ := id zp323
      have nzp323 := pF_ne (T := T) (g := g) (n := 1) (by first | with_reducible assumption | omega)
      refine g_goto ?_
      refine g_aload_n rfl ?_
      refine g_bipush (by decide) (fun v324 kv324 => ?_)
      refine g_bipush (by decide) (fun v325 kv325 => ?_)
      refine g_invvi (rS_I hI (by first | with_reducible assumption | omega)) sx_19 rfl rfl rfl rfl (f_50 v324 v325 H hI hJ x0 x1 x2 y321 y322 (by first | with_reducible assumption | omega) hp0 zp323) (fun v328 H326 r327 => ?_)
      obtain ⟨y329, y330, y331, y332, y333, rfl, by329, zp334, zp335⟩ := r327
      rw [kv324] at zp334
      rw [kv324] at zp335
      rw [kv325] at zp334
      rw [kv325] at zp335
      obtain ⟨razp334, rbzp334, rczp334, rdzp334, rezp334, rfzp334⟩ := id zp334
      refine g_pop rfl ?_
      refine g_iload_n rfl ?_
      exact g_iret ⟨_, rfl, y329, y330, y331, y332, y333, rfl, (by first | with_reducible assumption | omega), (by first | with_reducible assumption | omega), (by unfold pPlc; rw [← plv315]; first | (rw [if_pos (by first | with_reducible assumption | omega)]; exact zp334) | (rw [if_neg (by first | with_reducible assumption | omega), if_pos (by first | with_reducible assumption | omega)]; exact zp334) | (rw [if_neg (by first | with_reducible assumption | omega), if_neg (by first | with_reducible assumption | omega)]; exact zp334)), plv315⟩
  · refine g_aload_n rfl ?_
    refine g_gfr (rS_I hI (by first | with_reducible assumption | omega)) sx_19 rfl ?_
    refine g_aload_n rfl ?_
    refine g_gfk (rS_I hI (by first | with_reducible assumption | omega)) sx_19 rfl (rS_g4 hI) ?_
    refine g_invvi (rS_I hI (by first | with_reducible assumption | omega)) sx_11 rfl rfl rfl rfl (f_13 x2 H hI hJ x0 x1 x2 x3 x4 (by first | with_reducible assumption | omega) hp2) (fun v338 H336 r337 => ?_)
    obtain ⟨rfl, bv338, zp339⟩ := r337
    refine g_goto ?_
    have plv338 : v338.toInt = pPl b.nm b.P T g := by unfold pPl; rw [if_pos (by first | with_reducible assumption | omega), zp339, r2]
    refine g_istore_n (l' := [(0, .ref 19), (1, .int a1), (2, .int v338)]) rfl rfl ?_
    refine g_iload_n rfl ?_
    refine g_bipush (by decide) (fun v340 kv340 => ?_)
    refine g_if2_ne (fun c341 => ?_) (fun c341 => ?_)
    · refine g_iload_n rfl ?_
      refine g_iload_n rfl ?_
      refine g_if2_ne (fun c342 => ?_) (fun c342 => ?_)
      · refine g_aload_n rfl ?_
        refine g_bipush (by decide) (fun v343 kv343 => ?_)
        refine g_bipush (by decide) (fun v344 kv344 => ?_)
        refine g_invvi (rS_I hI (by first | with_reducible assumption | omega)) sx_19 rfl rfl rfl rfl (f_50 v343 v344 H hI hJ x0 x1 x2 x3 x4 (by first | with_reducible assumption | omega) hp0 hp1) (fun v347 H345 r346 => ?_)
        obtain ⟨y348, y349, y350, y351, y352, rfl, by348, zp353, zp354⟩ := r346
        rw [kv343] at zp353
        rw [kv343] at zp354
        rw [kv344] at zp353
        rw [kv344] at zp354
        obtain ⟨razp353, rbzp353, rczp353, rdzp353, rezp353, rfzp353⟩ := id zp353
        refine g_pop rfl ?_
        refine g_iload_n rfl ?_
        exact g_iret ⟨_, rfl, y348, y349, y350, y351, y352, rfl, (by first | with_reducible assumption | omega), (by first | with_reducible assumption | omega), (by unfold pPlc; rw [← plv338]; first | (rw [if_pos (by first | with_reducible assumption | omega)]; exact zp353) | (rw [if_neg (by first | with_reducible assumption | omega), if_pos (by first | with_reducible assumption | omega)]; exact zp353) | (rw [if_neg (by first | with_reducible assumption | omega), if_neg (by first | with_reducible assumption | omega)]; exact zp353)), plv338⟩
      · refine g_aload_n rfl ?_
        refine g_iconst (by decide) (fun v355 kv355 => ?_)
        refine g_invvv (rS_I hI (by first | with_reducible assumption | omega)) sx_19 rfl rfl rfl rfl (f_40 v355 (by first | with_reducible assumption | omega) H hI hJ x0 x1 x2 x3 x4 (by first | with_reducible assumption | omega) hp0 hp1) (fun H356 r357 => ?_)
        obtain ⟨y358, y359, rfl, zp360⟩ := r357
        rw [kv355] at zp360
        obtain ⟨razp360, rbzp360, rczp360, rdzp360, rezp360, rfzp360⟩ := id zp360
        have nzp360 := pF_ne (T := T) (g := g) (n := 3) (by first | with_reducible assumption | omega)
        refine g_nop ?_
        refine g_aload_n rfl ?_
        refine g_bipush (by decide) (fun v361 kv361 => ?_)
        refine g_bipush (by decide) (fun v362 kv362 => ?_)
        refine g_invvi (rS_I hI (by first | with_reducible assumption | omega)) sx_19 rfl rfl rfl rfl (f_50 v361 v362 H hI hJ x0 x1 x2 y358 y359 (by first | with_reducible assumption | omega) hp0 zp360) (fun v365 H363 r364 => ?_)
        obtain ⟨y366, y367, y368, y369, y370, rfl, by366, zp371, zp372⟩ := r364
        rw [kv361] at zp371
        rw [kv361] at zp372
        rw [kv362] at zp371
        rw [kv362] at zp372
        obtain ⟨razp371, rbzp371, rczp371, rdzp371, rezp371, rfzp371⟩ := id zp371
        refine g_pop rfl ?_
        refine g_iload_n rfl ?_
        exact g_iret ⟨_, rfl, y366, y367, y368, y369, y370, rfl, (by first | with_reducible assumption | omega), (by first | with_reducible assumption | omega), (by unfold pPlc; rw [← plv338]; first | (rw [if_pos (by first | with_reducible assumption | omega)]; exact zp371) | (rw [if_neg (by first | with_reducible assumption | omega), if_pos (by first | with_reducible assumption | omega)]; exact zp371) | (rw [if_neg (by first | with_reducible assumption | omega), if_neg (by first | with_reducible assumption | omega)]; exact zp371)), plv338⟩
    · refine g_aload_n rfl ?_
      refine g_iconst (by decide) (fun v373 kv373 => ?_)
      refine g_invvv (rS_I hI (by first | with_reducible assumption | omega)) sx_19 rfl rfl rfl rfl (f_40 v373 (by first | with_reducible assumption | omega) H hI hJ x0 x1 x2 x3 x4 (by first | with_reducible assumption | omega) hp0 hp1) (fun H374 r375 => ?_)
      obtain ⟨y376, y377, rfl, zp378⟩ := r375
      rw [kv373] at zp378
      obtain ⟨razp378, rbzp378, rczp378, rdzp378, rezp378, rfzp378⟩ := id zp378
      have nzp378 := pF_ne (T := T) (g := g) (n := 1) (by first | with_reducible assumption | omega)
      refine g_goto ?_
      refine g_aload_n rfl ?_
      refine g_bipush (by decide) (fun v379 kv379 => ?_)
      refine g_bipush (by decide) (fun v380 kv380 => ?_)
      refine g_invvi (rS_I hI (by first | with_reducible assumption | omega)) sx_19 rfl rfl rfl rfl (f_50 v379 v380 H hI hJ x0 x1 x2 y376 y377 (by first | with_reducible assumption | omega) hp0 zp378) (fun v383 H381 r382 => ?_)
      obtain ⟨y384, y385, y386, y387, y388, rfl, by384, zp389, zp390⟩ := r382
      rw [kv379] at zp389
      rw [kv379] at zp390
      rw [kv380] at zp389
      rw [kv380] at zp390
      obtain ⟨razp389, rbzp389, rczp389, rdzp389, rezp389, rfzp389⟩ := id zp389
      refine g_pop rfl ?_
      refine g_iload_n rfl ?_
      exact g_iret ⟨_, rfl, y384, y385, y386, y387, y388, rfl, (by first | with_reducible assumption | omega), (by first | with_reducible assumption | omega), (by unfold pPlc; rw [← plv338]; first | (rw [if_pos (by first | with_reducible assumption | omega)]; exact zp389) | (rw [if_neg (by first | with_reducible assumption | omega), if_pos (by first | with_reducible assumption | omega)]; exact zp389) | (rw [if_neg (by first | with_reducible assumption | omega), if_neg (by first | with_reducible assumption | omega)]; exact zp389)), plv338⟩
set_option maxRecDepth 4000 in
set_option maxHeartbeats 4000000 in
/-- X4.takeAct, exactly -/
theorem f_46 (H : mzH) (hI : gI SX H) (hJ : JX H) (x0 x1 x2 x3 x4 : Int32) (hx0 : 0 ≤ x0.toInt ∧ x0.toInt ≤ 900) {T : pT} {g : pG} (hp0 : tkH H T) (hp1 : rdX T g x0 x1 x2 x3 x4) : gCall 46 [.ref 19] (rS H x0 x1 x2 x3 x4) (gRi (fun v H' => ∃ y0 y1 y2 y3 y4 : Int32, H' = rS H y0 y1 y2 y3 y4 ∧ (0 ≤ v.toInt ∧ v.toInt ≤ 10) ∧ (0 ≤ y0.toInt ∧ y0.toInt ≤ 900) ∧ rdX T (pAct T g) y0 y1 y2 y3 y4 ∧ v.toInt = pActV T g)) := by
  obtain ⟨r0, r1, r2, r3, r4, r5⟩ := id hp1
  have w0 := hp0.2
  refine gG_call [(0, .ref 19)] ⟨rfl, trivial⟩ ?_
  show gG 1 zB_46 (mzBlk zB_46 0) [(0, .ref 19)] [] (rS H x0 x1 x2 x3 x4) 0 0 _
  refine g_aload_n rfl ?_
  refine g_gfk (rS_I hI (by first | with_reducible assumption | omega)) sx_19 rfl (rS_g3 hI) ?_
  refine g_iconst (by decide) (fun v125 kv125 => ?_)
  refine g_if2_ne (fun c126 => ?_) (fun c126 => ?_)
  · refine g_iconst (by decide) (fun v127 kv127 => ?_)
    refine g_aload_n rfl ?_
    refine g_bipush (by decide) (fun v128 kv128 => ?_)
    refine g_bipush (by decide) (fun v129 kv129 => ?_)
    refine g_invvi (rS_I hI (by first | with_reducible assumption | omega)) sx_19 rfl rfl rfl rfl (f_50 v128 v129 H hI hJ x0 x1 x2 x3 x4 (by first | with_reducible assumption | omega) hp0 hp1) (fun v132 H130 r131 => ?_)
    obtain ⟨y133, y134, y135, y136, y137, rfl, by133, zp138, zp139⟩ := r131
    rw [kv128] at zp138
    rw [kv128] at zp139
    rw [kv129] at zp138
    rw [kv129] at zp139
    obtain ⟨razp138, rbzp138, rczp138, rdzp138, rezp138, rfzp138⟩ := id zp138
    refine g_iadd (by first | with_reducible assumption | omega) (fun v140 ev140 => ?_)
    refine g_bipush (by decide) (fun v141 kv141 => ?_)
    refine g_isub (by first | with_reducible assumption | omega) (fun v142 ev142 => ?_)
    exact g_iret ⟨_, rfl, y133, y134, y135, y136, y137, rfl, (by first | with_reducible assumption | omega), (by first | with_reducible assumption | omega), (by unfold pAct; first | (rw [if_pos (by first | with_reducible assumption | omega)]; exact zp138) | (rw [if_neg (by first | with_reducible assumption | omega)]; exact zp138)), (by unfold pActV; first | (rw [if_pos (by first | with_reducible assumption | omega)]; omega) | (rw [if_neg (by first | with_reducible assumption | omega)]; split <;> omega))⟩
  · refine g_aload_n rfl ?_
    refine g_iconst (by decide) (fun v143 kv143 => ?_)
    refine g_iconst (by decide) (fun v144 kv144 => ?_)
    refine g_invvi (rS_I hI (by first | with_reducible assumption | omega)) sx_19 rfl rfl rfl rfl (f_50 v143 v144 H hI hJ x0 x1 x2 x3 x4 (by first | with_reducible assumption | omega) hp0 hp1) (fun v147 H145 r146 => ?_)
    obtain ⟨y148, y149, y150, y151, y152, rfl, by148, zp153, zp154⟩ := r146
    rw [kv143] at zp153
    rw [kv143] at zp154
    rw [kv144] at zp153
    rw [kv144] at zp154
    obtain ⟨razp153, rbzp153, rczp153, rdzp153, rezp153, rfzp153⟩ := id zp153
    refine g_pop rfl ?_
    refine g_iconst (by decide) (fun v155 kv155 => ?_)
    exact g_iret ⟨_, rfl, y148, y149, y150, y151, y152, rfl, (by first | with_reducible assumption | omega), (by first | with_reducible assumption | omega), (by unfold pAct; first | (rw [if_pos (by first | with_reducible assumption | omega)]; exact zp153) | (rw [if_neg (by first | with_reducible assumption | omega)]; exact zp153)), (by unfold pActV; first | (rw [if_pos (by first | with_reducible assumption | omega)]; omega) | (rw [if_neg (by first | with_reducible assumption | omega)]; split <;> omega))⟩
