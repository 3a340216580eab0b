theorem kr_e {K V so va wo : Int} (h : kR K V so va wo) : (K = 21 ∧ so = 3) ∨ (¬ K = 21 ∧ ¬ so = 3) := by
  unfold kR kwR nmR at h
  omega
theorem frL_r {H : mzH} : frL H H := ⟨fun _ _ _ _ => rfl, fun _ _ _ _ => rfl⟩
theorem frL_F {H B B1 : mzH} {f : Nat} {v : Int32} (m : frL H B) (e : B1 = sF B 0 f v) (h : f = 7 ∨ f = 17 ∨ f = 19) : frL H B1 := frL_t m ⟨fun c a _ _ => by rw [e, c_sF a], fun g h1 h2 h3 => by rw [e, fZ_sF_ne (by first | with_reducible assumption | omega)]⟩
theorem tk_0m {H B : mzH} {b : Nat → Int} {n : Nat} {T : pT} (h : (∀ q, q < n → sgB (b q) (bM H q)) ∧ tkA b n T.K T.S T.V T.M) (m : frL H B) (hn : (fZ B 0 7).toInt = (n : Int)) : tkM B b n T := by
  refine ⟨fun q hq => ?_, h.2, hn⟩
  unfold bM
  rw [aZ_cg (m.1 1 (by decide) (by decide) (by decide))]
  exact h.1 q hq
theorem rd_0m {B : mzH} {b : Nat → Int} {n : Nat} {T : pT} {x0 y0 y1 y2 y3 y4 x5 x6 : Int32} (h : tkM B b n T) (h0 : x0.toInt = 0) (h5 : x5.toInt = 0) (hy : 0 ≤ y1.toInt) (hm : mkT (bM B) (fZ B 0 7).toInt.toNat x0.toInt.toNat y0.toInt y1.toInt y2.toInt y3.toInt y4.toInt) : rdM b n T g0 y0 y1 y2 y3 y4 x5 x6 := by
  have hn : (fZ B 0 7).toInt.toNat = n := by have := h.2.2; omega
  rw [hn, show x0.toInt.toNat = 0 by omega] at hm
  obtain ⟨a1, a2, a3⟩ := tk_first h.1 h.2.1 hy hm
  exact ⟨a1, a2, a3, h5, fun z => absurd rfl z, Nat.zero_le _⟩
theorem tkL_m {b : Nat → Int} {n : Nat} {K S V : Nat → Int} : ∀ {m e : Nat}, tkL b n K S V m e → m ≤ e
  | 0, _, _ => Nat.zero_le _
  | m + 1, _, ⟨_, h1, _, h3, h4⟩ => by
    have a1 := tkL_m h1
    have a2 := h3.1
    have a3 := (tk_le h4).1
    omega
theorem it_lim {told : Int} {b : Nat → Int} {n N : Nat} {T : pT} {c : pB} (h : pGoes told T c N) (hA : tkA b n T.K T.S T.V T.M) (hf : (pIt told T N c).2.f = 0) (hk : ¬ T.K (pIt told T N c).2.t = 21) : N < n := by
  have h1 := it_t hA.2.1 N h hf
  obtain ⟨⟨e, h2, h3⟩, h4, _⟩ := hA
  have h5 := tkL_m h2
  have h6 := h3.1
  have h7 : (pIt told T N c).2.t ≠ T.M := fun q => hk (by rw [q]; exact h4)
  omega
/-- a book of the reference: its row, its names, whether fits was told -/
def bkG (w m f : Nat) (H : mzH) (c : pB) : Prop := (aZ H w 0).toInt = c.P ∧ (aZ H w 1).toInt = c.R ∧ (aZ H w 2).toInt = c.N ∧ (aZ H w 3).toInt = c.U ∧ (aZ H w 4).toInt = c.C ∧ (fZ H 0 f).toInt = c.F ∧ (∀ p : Nat, (p : Int) < c.P → (aZ H m p).toInt = c.nm p) ∧ (∀ k : Nat, (k : Int) < c.N → (aZ H w (69 + 5 * k)).toInt = c.hr k ∧ (aZ H w (69 + 5 * k + 1)).toInt = c.ac k ∧ (aZ H w (69 + 5 * k + 2)).toInt = c.fi k ∧ (aZ H w (69 + 5 * k + 3)).toInt = c.se k ∧ (aZ H w (69 + 5 * k + 4)).toInt = if c.ac k = 0 then c.ki k else -1) ∧ (0 ≤ c.R ∧ c.R ≤ 12)
theorem bkG_cg {w m f w' m' f' : Nat} {H H' : mzH} {c : pB} (h : bkG w m f H c) (hP : (aZ H w 0).toInt ≤ 8) (hN : (aZ H w 2).toInt ≤ 60) (ha : ∀ i, i < 369 → aZ H' w' i = aZ H w i) (hm : ∀ i, i < 8 → aZ H' m' i = aZ H m i) (hf : fZ H' 0 f' = fZ H 0 f) : bkG w' m' f' H' c := by
  obtain ⟨g0, g1, g2, g3, g4, g5, g6, g7, g8⟩ := h
  refine ⟨?_, ?_, ?_, ?_, ?_, ?_, fun p hp => ?_, fun k hk => ?_, g8⟩
  · rw [ha 0 (by decide)]; exact g0
  · rw [ha 1 (by decide)]; exact g1
  · rw [ha 2 (by decide)]; exact g2
  · rw [ha 3 (by decide)]; exact g3
  · rw [ha 4 (by decide)]; exact g4
  · rw [hf]; exact g5
  · rw [hm p (by first | with_reducible assumption | omega)]; exact g6 p hp
  · rw [ha _ (by first | with_reducible assumption | omega), ha _ (by first | with_reducible assumption | omega), ha _ (by first | with_reducible assumption | omega), ha _ (by first | with_reducible assumption | omega), ha _ (by first | with_reducible assumption | omega)]; exact g7 k hk
/-- what is told now -/
def bkW (H : mzH) (c : pB) : Prop := bkG 2 5 18 H c
theorem bkM_G {H : mzH} {c : pB} : bkM H c ↔ bkG 3 4 17 H c := Iff.rfl
def kwF (H B : mzH) : Prop := (∀ i, aZ B 2 i = aZ H 2 i) ∧ (∀ i, aZ B 5 i = aZ H 5 i) ∧ fZ B 0 18 = fZ H 0 18
/-- what the reference's reading comes to -/
def rdT (H B : mzH) (told : Int) (T : pT) (c : pB) (v : Int32) : Prop := ∃ k : Nat, pGoes told T c k ∧ pStop T (pIt told T k c).2 ∧ (fZ B 0 2).toInt = 0 ∧ (fZ B 0 15).toInt = (pIt told T k c).2.f ∧ (((pIt told T k c).2.f ≠ 0 ∧ v.toInt = -1 ∧ (fZ B 0 16).toInt = (pIt told T k c).2.p ∧ kwF H B) ∨ ((pIt told T k c).2.f = 0 ∧ v.toInt = (k : Int) ∧ (fZ B 0 16).toInt = -1 ∧ bkW B (pIt told T k c).1))
theorem rd_tail {H B B1 B2 B3 : mzH} {u w z : Int32} (q0 : frL H B) (e1 : B1 = sF B 0 2 u) (e2 : B2 = sF B1 0 15 w) (e3 : B3 = sF B2 0 16 z) (hI : gI SM B) (hI1 : gI SM B1) (hI2 : gI SM B2) : (∀ c i, aZ B3 c i = aZ B c i) ∧ fZ B3 0 2 = u ∧ fZ B3 0 15 = w ∧ fZ B3 0 16 = z ∧ (∀ f, f ≠ 2 → f ≠ 15 → f ≠ 16 → fZ B3 0 f = fZ B 0 f) := by
  refine ⟨fun c i => by rw [e3, aZ_sF, e2, aZ_sF, e1, aZ_sF], ?_, ?_, ?_, fun f h1 h2 h3 => by rw [e3, fZ_sF_ne (Ne.symm h3), e2, fZ_sF_ne (Ne.symm h2), e1, fZ_sF_ne (Ne.symm h1)]⟩
  · rw [e3, fZ_sF_ne (by decide), e2, fZ_sF_ne (by decide), e1, fZ_sF_eq hI sm_0 rfl]
  · rw [e3, fZ_sF_ne (by decide), e2, fZ_sF_eq hI1 sm_0 rfl]
  · rw [e3, fZ_sF_eq hI2 sm_0 rfl]
theorem mS_self {H : mzH} {x0 x1 x2 x3 x4 x5 x6 : Int32} (hI : gI SM H) (h0 : x0 = fZ H 0 8) (h1 : x1 = fZ H 0 9) (h2 : x2 = fZ H 0 10) (h3 : x3 = fZ H 0 11) (h4 : x4 = fZ H 0 12) (h5 : x5 = fZ H 0 13) (h6 : x6 = fZ H 0 14) : mS H x0 x1 x2 x3 x4 x5 x6 = H := by
  unfold mS
  rw [sF_self hI sm_0 rfl h0, sF_self hI sm_0 rfl h1, sF_self hI sm_0 rfl h2, sF_self hI sm_0 rfl h3, sF_self hI sm_0 rfl h4, sF_self hI sm_0 rfl h5, sF_self hI sm_0 rfl h6]
