theorem kr_l {K V so va wo : Int} (h : kR K V so va wo) : (0 ≤ K ∧ K ≤ 3 ∧ so = 0 ∧ va = K + 11) ∨ (¬ (0 ≤ K ∧ K ≤ 3) ∧ ¬ (so = 0 ∧ 11 ≤ va ∧ va ≤ 14)) := by
  unfold kR kwR nmR at h
  omega
theorem kr_s {K V so va wo : Int} (h : kR K V so va wo) : (K = 20 ∧ so = 2) ∨ (¬ K = 20 ∧ ¬ so = 2) := by
  unfold kR kwR nmR at h
  omega
theorem tk_f {T : pT} {lo hi : Int} {g : pG} (h : g.f ≠ 0) : pTake T lo hi g = pGn T g := by rw [pT_no h, gn_no h]
/-- what reading may touch -/
def frL (H B : mzH) : Prop := (∀ c, c ≠ 0 → c ≠ 3 → c ≠ 4 → B[c]? = H[c]?) ∧ ∀ f, f ≠ 7 → f ≠ 17 → f ≠ 19 → fZ B 0 f = fZ H 0 f
theorem frL_t {H B B1 : mzH} (h : frL H B) (g : frL B B1) : frL H B1 := ⟨fun c a b d => (g.1 c a b d).trans (h.1 c a b d), fun f f1 f2 f3 => (g.2 f f1 f2 f3).trans (h.2 f f1 f2 f3)⟩
theorem frL_mk {H B B1 : mzH} {v : Int32} (m : frM H B) (e : B1 = sF B 0 19 v) : frL H B1 := ⟨fun c a b d => by rw [e, c_sF a]; exact m.1 c a b d, fun f f1 f2 f3 => by rw [e, fZ_sF_ne (by first | with_reducible assumption | omega)]; exact m.2 f f2⟩
theorem tkM_19 {B B1 : mzH} {b : Nat → Int} {n : Nat} {T : pT} {v : Int32} (h : tkM B b n T) (e : B1 = sF B 0 19 v) : tkM B1 b n T := by
  refine ⟨fun q hq => ?_, h.2.1, ?_⟩
  · unfold bM
    rw [e, aZ_sF]
    exact h.1 q hq
  · rw [e, fZ_sF_ne (by decide)]
    exact h.2.2
theorem bkM_F {B B1 : mzH} {c : pB} {f : Nat} {v : Int32} (h : bkM B c) (e : B1 = sF B 0 f v) (hf : f ≠ 17) : bkM B1 c := by
  unfold bkM at h ⊢
  rw [e]
  simp only [aZ_sF, fZ_sF_ne hf]
  exact h
theorem sg_id {told : Int} {T : pT} {g : pG} (h : told = 0 ∨ T.K g.t = 3) : pSg told T g = g := by
  unfold pSg
  rw [if_neg (by first | with_reducible assumption | omega)]
theorem l1_0 {c : pB} {T : pT} {g : pG} (h : T.K g.t = 0) : pLn1 c T g = pRdP c T g := by unfold pLn1; rw [if_pos h]
theorem l1_1 {c : pB} {T : pT} {g : pG} (h : T.K g.t = 1) : pLn1 c T g = pRdR c T g := by unfold pLn1; rw [if_neg (by first | with_reducible assumption | omega), if_pos h]
theorem l1_2 {c : pB} {T : pT} {g : pG} (h : T.K g.t = 2) : pLn1 c T g = pRdF c T g := by unfold pLn1; rw [if_neg (by first | with_reducible assumption | omega), if_neg (by first | with_reducible assumption | omega), if_pos h]
theorem l1_3 {c : pB} {T : pT} {g : pG} (h : T.K g.t = 3) : pLn1 c T g = pM6 c T g := by unfold pLn1; rw [if_neg (by first | with_reducible assumption | omega), if_neg (by first | with_reducible assumption | omega), if_neg (by first | with_reducible assumption | omega), if_pos h]
theorem b1_0 {c : pB} {T : pT} {g : pG} (h : T.K g.t = 0) : bLn c T g = bRdP c T g := by unfold bLn; rw [if_pos h]
theorem b1_1 {c : pB} {T : pT} {g : pG} (h : T.K g.t = 1) : bLn c T g = bRdR c T g := by unfold bLn; rw [if_neg (by first | with_reducible assumption | omega), if_pos h]
theorem b1_2 {c : pB} {T : pT} {g : pG} (h : T.K g.t = 2) : bLn c T g = bRdF c T g := by unfold bLn; rw [if_neg (by first | with_reducible assumption | omega), if_neg (by first | with_reducible assumption | omega), if_pos h]
theorem b1_3 {c : pB} {T : pT} {g : pG} (h : T.K g.t = 3) : bLn c T g = bMg c T g := by unfold bLn; rw [if_neg (by first | with_reducible assumption | omega), if_neg (by first | with_reducible assumption | omega), if_neg (by first | with_reducible assumption | omega), if_pos h]
theorem ln_no {c : pB} {T : pT} {g : pG} (h : g.f ≠ 0) : pLn1 c T g = g := by
  have e1 : pRdP1 c T g = g := by unfold pRdP1; rw [pF_neg h, pT_no h, ite_self]
  have a0 : pRdP c T g = g := by rw [nw_1 (by rw [e1]; exact h), e1, gn_no h]
  have e2 : pRdR1 c T g = g := by unfold pRdR1; rw [pF_neg h, pT_no h, ite_self]
  have a1 : pRdR c T g = g := by
    unfold pRdR pRdR3 pRdR2
    rw [e2, pPlc_no h, pPlc_no h, pN_0 h]
  have e3 : pRdF1 c T g = g := by unfold pRdF1; rw [pF_neg h, pT_no h, ite_self]
  have a2 : pRdF c T g = g := by
    unfold pRdF pRdF2
    rw [e3, pN_0 h, pN_0 h]
  have e4 : pM1 c T g = g := by unfold pM1; rw [pF_neg h, pT_no h, ite_self]
  have e5 : pM2 c T g = g := by unfold pM2; rw [e4, pN_0 h]
  have e6 : pM3 c T g = g := by
    unfold pM3
    rw [e5, ac_eq]
    unfold pActW
    rw [pF_neg h, ite_self, gn_no h]
  have e7 : pM4 c T g = g := by unfold pM4; rw [e6, pN_0 h]
  have e8 : pM5 c T g = g := by rw [m5_f (by rw [e7]; exact h), e7]
  have a3 : pM6 c T g = g := by rw [m6_f (by rw [e8]; exact h), e8]
  unfold pLn1
  rw [a0, a1, a2, a3, pF_neg h, ite_self, ite_self, ite_self, ite_self]
theorem l1_w {c : pB} {T : pT} {g : pG} {told : Int} (hf : g.f = 0) (h : ¬ T.K g.t = 3 ∧ (told ≠ 0 ∨ ¬ (0 ≤ T.K g.t ∧ T.K g.t ≤ 2))) : pLn1 c T (pSg told T g) = pFail T 1 g := by
  if q : told = 0 then
    rw [sg_id (Or.inl q)]
    unfold pLn1
    rw [if_neg (by first | with_reducible assumption | omega), if_neg (by first | with_reducible assumption | omega), if_neg (by first | with_reducible assumption | omega), if_neg (by first | with_reducible assumption | omega)]
  else
    have e : pSg told T g = pFail T 1 g := by
      unfold pSg
      rw [if_pos ⟨q, h.1⟩]
    rw [e, ln_no (pF_ne (by decide)).1]
theorem bkl {B B1 : mzH} {c X : pB} {T : pT} {G g : pG} {v : Int32} (h : G.f ≠ 0 ∨ bkM B X) (e : B1 = sF B 0 19 v) (h1 : pLn1 c T g = G) (h2 : bLn c T g = X) : (pLn c T g).f ≠ 0 ∨ bkM B1 (bLn c T g) := by
  rcases h with h | h
  · left
    unfold pLn
    rw [h1, pT_no h]
    exact h
  · right
    rw [h2]
    exact bkM_F h e (by decide)
