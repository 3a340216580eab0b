theorem kr_e {K V so va wo : Int} (h : kR K V so va wo) : (K = 21 ∧ so = 3) ∨ (¬ K = 21 ∧ ¬ so = 3) := by
  unfold kR kwR nmR at h
  omega
theorem frL_r {H : mzH} : frL H H := ⟨fun _ _ _ _ => rfl, fun _ _ _ _ => rfl⟩
theorem frL_F {H B B1 : mzH} {f : Nat} {v : Int32} (m : frL H B) (e : B1 = sF B 0 f v) (h : f = 7 ∨ f = 17 ∨ f = 19) : frL H B1 := frL_t m ⟨fun c a _ _ => by rw [e, c_sF a], fun g h1 h2 h3 => by rw [e, fZ_sF_ne (by omega)]⟩
theorem tk_0m {H B : mzH} {b : Nat → Int} {n : Nat} {T : pT} (h : (∀ q, q < n → sgB (b q) (bM H q)) ∧ tkA b n T.K T.S T.V T.M) (m : frL H B) (hn : (fZ B 0 7).toInt = (n : Int)) : tkM B b n T := by
  refine ⟨fun q hq => ?_, h.2, hn⟩
  unfold bM
  rw [aZ_cg (m.1 1 (by decide) (by decide) (by decide))]
  exact h.1 q hq
theorem rd_0m {B : mzH} {b : Nat → Int} {n : Nat} {T : pT} {x0 y0 y1 y2 y3 y4 x5 x6 : Int32} (h : tkM B b n T) (h0 : x0.toInt = 0) (h5 : x5.toInt = 0) (hy : 0 ≤ y1.toInt) (hm : mkT (bM B) (fZ B 0 7).toInt.toNat x0.toInt.toNat y0.toInt y1.toInt y2.toInt y3.toInt y4.toInt) : rdM b n T g0 y0 y1 y2 y3 y4 x5 x6 := by
  have hn : (fZ B 0 7).toInt.toNat = n := by have := h.2.2; omega
  rw [hn, show x0.toInt.toNat = 0 by omega] at hm
  obtain ⟨a1, a2, a3⟩ := tk_first h.1 h.2.1 hy hm
  exact ⟨a1, a2, a3, h5, fun z => absurd rfl z, Nat.zero_le _⟩
theorem tkL_m {b : Nat → Int} {n : Nat} {K S V : Nat → Int} : ∀ {m e : Nat}, tkL b n K S V m e → m ≤ e
  | 0, _, _ => Nat.zero_le _
  | m + 1, _, ⟨_, h1, _, h3, h4⟩ => by
    have a1 := tkL_m h1
    have a2 := h3.1
    have a3 := (tk_le h4).1
    omega
theorem it_lim {told : Int} {b : Nat → Int} {n N : Nat} {T : pT} {c : pB} (h : pGoes told T c N) (hA : tkA b n T.K T.S T.V T.M) (hf : (pIt told T N c).2.f = 0) (hk : ¬ T.K (pIt told T N c).2.t = 21) : N < n := by
  have h1 := it_t hA.2.1 N h hf
  obtain ⟨⟨e, h2, h3⟩, h4, _⟩ := hA
  have h5 := tkL_m h2
  have h6 := h3.1
  have h7 : (pIt told T N c).2.t ≠ T.M := fun q => hk (by rw [q]; exact h4)
  omega
/-- a book of the reference: its row, its names, whether fits was told -/
def bkG (w m f : Nat) (H : mzH) (c : pB) : Prop := (aZ H w 0).toInt = c.P ∧ (aZ H w 1).toInt = c.R ∧ (aZ H w 2).toInt = c.N ∧ (aZ H w 3).toInt = c.U ∧ (aZ H w 4).toInt = c.C ∧ (fZ H 0 f).toInt = c.F ∧ (∀ p : Nat, (p : Int) < c.P → (aZ H m p).toInt = c.nm p) ∧ (∀ k : Nat, (k : Int) < c.N → (aZ H w (69 + 5 * k)).toInt = c.hr k ∧ (aZ H w (69 + 5 * k + 1)).toInt = c.ac k ∧ (aZ H w (69 + 5 * k + 2)).toInt = c.fi k ∧ (aZ H w (69 + 5 * k + 3)).toInt = c.se k ∧ (aZ H w (69 + 5 * k + 4)).toInt = if c.ac k = 0 then c.ki k else -1) ∧ (0 ≤ c.R ∧ c.R ≤ 12)
theorem bkG_cg {w m f w' m' f' : Nat} {H H' : mzH} {c : pB} (h : bkG w m f H c) (hP : (aZ H w 0).toInt ≤ 8) (hN : (aZ H w 2).toInt ≤ 60) (ha : ∀ i, i < 369 → aZ H' w' i = aZ H w i) (hm : ∀ i, i < 8 → aZ H' m' i = aZ H m i) (hf : fZ H' 0 f' = fZ H 0 f) : bkG w' m' f' H' c := by
  obtain ⟨g0, g1, g2, g3, g4, g5, g6, g7, g8⟩ := h
  refine ⟨?_, ?_, ?_, ?_, ?_, ?_, fun p hp => ?_, fun k hk => ?_, g8⟩
  · rw [ha 0 (by decide)]; exact g0
  · rw [ha 1 (by decide)]; exact g1
  · rw [ha 2 (by decide)]; exact g2
  · rw [ha 3 (by decide)]; exact g3
  · rw [ha 4 (by decide)]; exact g4
  · rw [hf]; exact g5
  · rw [hm p (by omega)]; exact g6 p hp
  · rw [ha _ (by omega), ha _ (by omega), ha _ (by omega), ha _ (by omega), ha _ (by omega)]; exact g7 k hk
/-- what is told now -/
def bkW (H : mzH) (c : pB) : Prop := bkG 2 5 18 H c
theorem bkM_G {H : mzH} {c : pB} : bkM H c ↔ bkG 3 4 17 H c := Iff.rfl
def kwF (H B : mzH) : Prop := (∀ i, aZ B 2 i = aZ H 2 i) ∧ (∀ i, aZ B 5 i = aZ H 5 i) ∧ fZ B 0 18 = fZ H 0 18
/-- what the reference's reading comes to -/
def rdT (H B : mzH) (told : Int) (T : pT) (c : pB) (v : Int32) : Prop := ∃ k : Nat, pGoes told T c k ∧ pStop T (pIt told T k c).2 ∧ (fZ B 0 2).toInt = 0 ∧ (fZ B 0 15).toInt = (pIt told T k c).2.f ∧ (((pIt told T k c).2.f ≠ 0 ∧ v.toInt = -1 ∧ (fZ B 0 16).toInt = (pIt told T k c).2.p ∧ kwF H B) ∨ ((pIt told T k c).2.f = 0 ∧ v.toInt = (k : Int) ∧ (fZ B 0 16).toInt = -1 ∧ bkW B (pIt told T k c).1))
theorem rd_tail {H B B1 B2 B3 : mzH} {u w z : Int32} (q0 : frL H B) (e1 : B1 = sF B 0 2 u) (e2 : B2 = sF B1 0 15 w) (e3 : B3 = sF B2 0 16 z) (hI : gI SM B) (hI1 : gI SM B1) (hI2 : gI SM B2) : (∀ c i, aZ B3 c i = aZ B c i) ∧ fZ B3 0 2 = u ∧ fZ B3 0 15 = w ∧ fZ B3 0 16 = z ∧ (∀ f, f ≠ 2 → f ≠ 15 → f ≠ 16 → fZ B3 0 f = fZ B 0 f) := by
  refine ⟨fun c i => by rw [e3, aZ_sF, e2, aZ_sF, e1, aZ_sF], ?_, ?_, ?_, fun f h1 h2 h3 => by rw [e3, fZ_sF_ne (Ne.symm h3), e2, fZ_sF_ne (Ne.symm h2), e1, fZ_sF_ne (Ne.symm h1)]⟩
  · rw [e3, fZ_sF_ne (by decide), e2, fZ_sF_ne (by decide), e1, fZ_sF_eq hI sm_0 rfl]
  · rw [e3, fZ_sF_ne (by decide), e2, fZ_sF_eq hI1 sm_0 rfl]
  · rw [e3, fZ_sF_eq hI2 sm_0 rfl]
theorem rd_fin1 {H B B1 B2 B3 : mzH} {u w z v : Int32} {told : Int} {T : pT} {c : pB} {k : Nat} (q0 : frL H B) (e1 : B1 = sF B 0 2 u) (e2 : B2 = sF B1 0 15 w) (e3 : B3 = sF B2 0 16 z) (hI : gI SM B) (hI1 : gI SM B1) (hI2 : gI SM B2) (q4 : pGoes told T c k) (hst : pStop T (pIt told T k c).2) (hu : u.toInt = 0) (hw : w.toInt = (pIt told T k c).2.f) (hz : z.toInt = (pIt told T k c).2.p) (hf : (pIt told T k c).2.f ≠ 0) (hv : v.toInt = -1) : rdT H B3 told T c v := by
  obtain ⟨t1, t2, t3, t4, t5⟩ := rd_tail q0 e1 e2 e3 hI hI1 hI2
  refine ⟨k, q4, hst, by rw [t2]; exact hu, by rw [t3]; exact hw, Or.inl ⟨hf, hv, by rw [t4]; exact hz, fun i => ?_, fun i => ?_, ?_⟩⟩
  · rw [t1, aZ_cg (q0.1 2 (by decide) (by decide) (by decide))]
  · rw [t1, aZ_cg (q0.1 5 (by decide) (by decide) (by decide))]
  · rw [t5 18 (by decide) (by decide) (by decide), q0.2 18 (by decide) (by decide) (by decide)]
theorem rd_fin2 {H B B1 B2 B3 B4 : mzH} {u w z v : Int32} {told : Int} {T : pT} {c : pB} (q0 : frL H B) (e1 : B1 = sF B 0 2 u) (e2 : B2 = sF B1 0 15 w) (e3 : B3 = sF B2 0 16 z) (hI : gI SM B) (hI1 : gI SM B1) (hI2 : gI SM B2) (q4 : pGoes told T c (fZ B 0 19).toInt.toNat) (hst : pStop T (pIt told T (fZ B 0 19).toInt.toNat c).2) (hb : bkM B (pIt told T (fZ B 0 19).toInt.toNat c).1) (hP : 0 ≤ (aZ B 3 0).toInt ∧ (aZ B 3 0).toInt ≤ 8) (hN : 0 ≤ (aZ B 3 2).toInt ∧ (aZ B 3 2).toInt ≤ 60) (hu : u.toInt = 0) (hw : w.toInt = (pIt told T (fZ B 0 19).toInt.toNat c).2.f) (hz : z.toInt = -1) (hf : (pIt told T (fZ B 0 19).toInt.toNat c).2.f = 0 ∧ 0 ≤ (fZ B 0 19).toInt) (hv : v.toInt = (fZ B4 0 19).toInt) (k1 : ∀ i, i < 369 → aZ B4 2 i = aZ B3 3 i) (k2 : ∀ i, i < 8 → aZ B4 5 i = aZ B3 4 i) (k3 : ∀ f, f ≠ 18 → (f < 8 ∨ 14 < f) → fZ B4 0 f = fZ B3 0 f) (k4 : fZ B4 0 18 = fZ B3 0 17) (_ : ∀ i, aZ B4 1 i = aZ B3 1 i) : rdT H B4 told T c v := by
  obtain ⟨t1, t2, t3, t4, t5⟩ := rd_tail q0 e1 e2 e3 hI hI1 hI2
  refine ⟨_, q4, hst, by rw [k3 2 (by decide) (by decide), t2]; exact hu, by rw [k3 15 (by decide) (by decide), t3]; exact hw, Or.inr ⟨hf.1, ?_, by rw [k3 16 (by decide) (by decide), t4]; exact hz, ?_⟩⟩
  · rw [hv, k3 19 (by decide) (by decide), t5 19 (by decide) (by decide) (by decide)]
    omega
  · exact bkG_cg (bkM_G.mp hb) hP.2 hN.2 (fun i hi => by rw [k1 i hi, t1]) (fun i hi => by rw [k2 i hi, t1]) (by rw [k4, t5 17 (by decide) (by decide) (by decide)])
theorem mS_self {H : mzH} {x0 x1 x2 x3 x4 x5 x6 : Int32} (hI : gI SM H) (h0 : x0 = fZ H 0 8) (h1 : x1 = fZ H 0 9) (h2 : x2 = fZ H 0 10) (h3 : x3 = fZ H 0 11) (h4 : x4 = fZ H 0 12) (h5 : x5 = fZ H 0 13) (h6 : x6 = fZ H 0 14) : mS H x0 x1 x2 x3 x4 x5 x6 = H := by
  unfold mS
  rw [sF_self hI sm_0 rfl h0, sF_self hI sm_0 rfl h1, sF_self hI sm_0 rfl h2, sF_self hI sm_0 rfl h3, sF_self hI sm_0 rfl h4, sF_self hI sm_0 rfl h5, sF_self hI sm_0 rfl h6]
theorem f_174m (H : mzH) (hI : gI SM H) (hJ : JN H) (x0 x1 x2 x3 x4 x5 x6 : Int32) (hx0 : 0 ≤ x0.toInt ∧ x0.toInt ≤ 900) (hx1 : 0 ≤ x1.toInt ∧ x1.toInt ≤ 900) (hx2 : 0 ≤ x2.toInt ∧ x2.toInt ≤ 4) : gCall 174 [.ref 0] (mS H x0 x1 x2 x3 x4 x5 x6) (gRv (fun H' => ∃ B : mzH, H' = mS B x0 x1 x2 x3 x4 x5 x6 ∧ gI SM B ∧ JN B ∧ (∀ i, i < 369 → aZ B 2 i = aZ H 3 i) ∧ (∀ i, i < 8 → aZ B 5 i = aZ H 4 i) ∧ (∀ f, f ≠ 18 → (f < 8 ∨ 14 < f) → fZ B 0 f = fZ H 0 f) ∧ fZ B 0 18 = fZ H 0 17 ∧ (∀ i, aZ B 1 i = aZ H 1 i))) := by
  have hI1 : gI SM (mS H x0 x1 x2 x3 x4 x5 x6) := mS_I hI hx0 hx1 hx2
  refine gGo_mono (e_174 _ hI1 (mS_J hJ)) ?_
  rintro o H' ⟨rfl, hB, hJB, _, k1, k2, k3, k4, k5⟩
  refine ⟨rfl, H', (mS_self hB ?_ ?_ ?_ ?_ ?_ ?_ ?_).symm, hB, hJB, fun i hi => ?_, fun i hi => ?_, fun f h1 h2 => ?_, ?_, fun i => ?_⟩
  · rw [k3 8 (by decide)]; exact mS_g8 hI
  · rw [k3 9 (by decide)]; exact mS_g9 hI
  · rw [k3 10 (by decide)]; exact mS_g10 hI
  · rw [k3 11 (by decide)]; exact mS_g11 hI
  · rw [k3 12 (by decide)]; exact mS_g12 hI
  · rw [k3 13 (by decide)]; exact mS_g13 hI
  · rw [k3 14 (by decide)]; exact mS_g14 hI
  · rw [k1 i hi, mS_a]
  · rw [k2 i hi, mS_a]
  · rw [k3 f h1]; exact (mS_o (Or.inr ⟨by omega, by omega, by omega, by omega, by omega, by omega, by omega⟩)).symm
  · rw [k4]; exact (mS_o (by decide)).symm
  · rw [k5, mS_a]
set_option maxRecDepth 4000 in
set_option maxHeartbeats 4000000 in
/-- M.reads, exactly -/
theorem f_173 (a1 : Int32) (ha1 : 0 ≤ a1.toInt ∧ a1.toInt ≤ 900) (a2 : Int32) (ha2 : 0 ≤ a2.toInt ∧ a2.toInt ≤ 1) (H : mzH) (hI : gI SM H) (hJ : JN H) (x0 x1 x2 x3 x4 x5 x6 : Int32) (hx0 : 0 ≤ x0.toInt ∧ x0.toInt ≤ 900) (hx1 : 0 ≤ x1.toInt ∧ x1.toInt ≤ 900) (hx2 : 0 ≤ x2.toInt ∧ x2.toInt ≤ 4) {b : Nat → Int} {n : Nat} {T : pT} {c : pB} (hp0 : (∀ q, q < n → sgB (b q) (bM H q)) ∧ tkA b n T.K T.S T.V T.M) (hp1 : a1.toInt = (n : Int)) (hp2 : bkM H c) : gCall 173 [.ref 0, .int a1, .int a2] (mS H x0 x1 x2 x3 x4 x5 x6) (gRi (fun v H' => ∃ B : mzH, ∃ y0 y1 y2 y3 y4 y5 y6 : Int32, H' = mS B y0 y1 y2 y3 y4 y5 y6 ∧ gI SM B ∧ JN B ∧ (0 ≤ y0.toInt ∧ y0.toInt ≤ 900) ∧ (0 ≤ y1.toInt ∧ y1.toInt ≤ 900) ∧ (0 ≤ y2.toInt ∧ y2.toInt ≤ 4) ∧ rdT H B a2.toInt T c v)) := by
  refine gG_call [(0, .ref 0), (1, .int a1), (2, .int a2)] ⟨rfl, rfl, rfl, trivial⟩ ?_
  show gG 3 zB_173 (mzBlk zB_173 0) [(0, .ref 0), (1, .int a1), (2, .int a2)] [] (mS H x0 x1 x2 x3 x4 x5 x6) 0 0 _
  refine g_aload_n rfl ?_
  refine g_iload_n rfl ?_
  refine g_pfi (mS_I hI (by omega) (by omega) (by omega)) sm_0 rfl (by omega) (fun H309 eH309 hIH309 => ?_)
  obtain ⟨B310, eB310⟩ : ∃ z, z = sF H 0 7 a1 := ⟨_, rfl⟩
  obtain rfl : H309 = (mS B310 x0 x1 x2 x3 x4 x5 x6) := by rw [eH309, eB310]; exact mS_cF (by decide)
  have hIB310 : gI SM B310 := by rw [eB310]; exact gI_sF hI sm_0 rfl (by omega)
  have hJB310 : JN B310 := JN_sF eB310 hJ
  have frB310 : frL H B310 := frL_F frL_r eB310 (by decide)
  have bkB310 : bkM B310 c := bkM_F hp2 eB310 (by decide)
  have jB310_0_7 : (fZ B310 0 7).toInt = a1.toInt := by rw [eB310, fZ_sF_eq hI sm_0 rfl]
  have jB310_0_19 : (fZ B310 0 19).toInt = (fZ H 0 19).toInt := by rw [eB310, fZ_sF_ne (by decide)]
  refine g_aload_n rfl ?_
  refine g_iconst (by decide) (fun v311 kv311 => ?_)
  refine g_pfi (mS_I hIB310 (by omega) (by omega) (by omega)) sm_0 rfl (by omega) (fun H312 eH312 hIH312 => ?_)
  obtain rfl : H312 = (mS B310 v311 x1 x2 x3 x4 x5 x6) := eH312.trans (mS_s8 hIB310)
  refine g_aload_n rfl ?_
  refine g_iconst (by decide) (fun v313 kv313 => ?_)
  refine g_pfi (mS_I hIB310 (by omega) (by omega) (by omega)) sm_0 rfl (gz_any _) (fun H314 eH314 hIH314 => ?_)
  obtain rfl : H314 = (mS B310 v311 x1 x2 x3 x4 v313 x6) := eH314.trans (mS_s13 hIB310)
  refine g_aload_n rfl ?_
  refine g_iconst (by decide) (fun v315 kv315 => ?_)
  refine g_pfi (mS_I hIB310 (by omega) (by omega) (by omega)) sm_0 rfl (gz_any _) (fun H316 eH316 hIH316 => ?_)
  obtain ⟨B317, eB317⟩ : ∃ z, z = sF B310 0 19 v315 := ⟨_, rfl⟩
  obtain rfl : H316 = (mS B317 v311 x1 x2 x3 x4 v313 x6) := by rw [eH316, eB317]; exact mS_cF (by decide)
  have hIB317 : gI SM B317 := by rw [eB317]; exact gI_sF hIB310 sm_0 rfl (gz_any _)
  have hJB317 : JN B317 := JN_sF eB317 hJB310
  have frB317 : frL H B317 := frL_F frB310 eB317 (by decide)
  have bkB317 : bkM B317 c := bkM_F bkB310 eB317 (by decide)
  have jB317_0_7 : (fZ B317 0 7).toInt = (fZ B310 0 7).toInt := by rw [eB317, fZ_sF_ne (by decide)]
  have jB317_0_19 : (fZ B317 0 19).toInt = v315.toInt := by rw [eB317, fZ_sF_eq hIB310 sm_0 rfl]
  refine g_aload_n rfl ?_
  refine g_invvv (mS_I hIB317 (by omega) (by omega) (by omega)) sm_0 rfl rfl rfl rfl (f_159 B317 hIB317 hJB317 v311 x1 x2 x3 x4 v313 x6 (by omega) (by omega) (by omega) (by omega)) (fun H318 r319 => ?_)
  obtain ⟨y320, y321, y322, y323, y324, rfl, by320, by321, by322, zp325⟩ := r319
  refine g_nop ?_
  have L334 : ∀ (N : Nat) (z326 : Int32) (z327 : Int32) (z328 : Int32) (z329 : Int32) (z330 : Int32) (z331 : Int32) (z332 : Int32) (B333 : mzH), (0 ≤ z326.toInt ∧ z326.toInt ≤ 900) → (0 ≤ z327.toInt ∧ z327.toInt ≤ 900) → (0 ≤ z328.toInt ∧ z328.toInt ≤ 4) → gI SM B333 → JN B333 → frL H B333 → tkM B333 b n T → ((pIt a2.toInt T (fZ B333 0 19).toInt.toNat c).2.f ≠ 0 ∨ bkM B333 (pIt a2.toInt T (fZ B333 0 19).toInt.toNat c).1) → rdM b n T (pIt a2.toInt T (fZ B333 0 19).toInt.toNat c).2 z326 z327 z328 z329 z330 z331 z332 → pGoes a2.toInt T c (fZ B333 0 19).toInt.toNat → (0 ≤ (fZ B333 0 19).toInt ∧ (fZ B333 0 19).toInt ≤ 900) → (900 - (fZ B333 0 19).toInt).toNat < N → gG 3 zB_173 (mzBlk zB_173 1) [(0, .ref 0), (1, .int a1), (2, .int a2)] [] (mS B333 z326 z327 z328 z329 z330 z331 z332) 0 0 (gRi (fun v H' => ∃ B : mzH, ∃ y0 y1 y2 y3 y4 y5 y6 : Int32, H' = mS B y0 y1 y2 y3 y4 y5 y6 ∧ gI SM B ∧ JN B ∧ (0 ≤ y0.toInt ∧ y0.toInt ≤ 900) ∧ (0 ≤ y1.toInt ∧ y1.toInt ≤ 900) ∧ (0 ≤ y2.toInt ∧ y2.toInt ≤ 4) ∧ rdT H B a2.toInt T c v)) := by
    intro N
    induction N with
    | zero => intro z326 z327 z328 z329 z330 z331 z332 B333 bz326 bz327 bz328 hIB333 hJB333 q0 q1 q2 q3 q4 q5 hmL334; exact absurd hmL334 (Nat.not_lt_zero _)
    | succ N ihL334 =>
      intro z326 z327 z328 z329 z330 z331 z332 B333 bz326 bz327 bz328 hIB333 hJB333 q0 q1 q2 q3 q4 q5 hmL334
      obtain ⟨-, rbq, -, rdq, rpq, -⟩ := id q3
      have rpq := bx.mk rpq
      have ke := kr_e rbq
      refine g_aload_n rfl ?_
      refine g_gfk (mS_I hIB333 (by omega) (by omega) (by omega)) sm_0 rfl (mS_g13 hIB333) ?_
      refine g_if_ne (fun c335 => ?_) (fun c335 => ?_)
      · have hst : pStop T (pIt a2.toInt T (fZ B333 0 19).toInt.toNat c).2 := Or.inl (by omega)
        refine g_aload_n rfl ?_
        refine g_iconst (by decide) (fun v336 kv336 => ?_)
        refine g_pfi (mS_I hIB333 (by omega) (by omega) (by omega)) sm_0 rfl (by omega) (fun H337 eH337 hIH337 => ?_)
        obtain ⟨B338, eB338⟩ : ∃ z, z = sF B333 0 2 v336 := ⟨_, rfl⟩
        obtain rfl : H337 = (mS B338 z326 z327 z328 z329 z330 z331 z332) := by rw [eH337, eB338]; exact mS_cF (by decide)
        have hIB338 : gI SM B338 := by rw [eB338]; exact gI_sF hIB333 sm_0 rfl (by omega)
        have hJB338 : JN B338 := JN_sF eB338 hJB333
        have jB338_0_7 : (fZ B338 0 7).toInt = (fZ B333 0 7).toInt := by rw [eB338, fZ_sF_ne (by decide)]
        have jB338_0_19 : (fZ B338 0 19).toInt = (fZ B333 0 19).toInt := by rw [eB338, fZ_sF_ne (by decide)]
        refine g_aload_n rfl ?_
        refine g_aload_n rfl ?_
        refine g_gfk (mS_I hIB338 (by omega) (by omega) (by omega)) sm_0 rfl (mS_g13 hIB338) ?_
        refine g_pfi (mS_I hIB338 (by omega) (by omega) (by omega)) sm_0 rfl (gz_any _) (fun H339 eH339 hIH339 => ?_)
        obtain ⟨B340, eB340⟩ : ∃ z, z = sF B338 0 15 z331 := ⟨_, rfl⟩
        obtain rfl : H339 = (mS B340 z326 z327 z328 z329 z330 z331 z332) := by rw [eH339, eB340]; exact mS_cF (by decide)
        have hIB340 : gI SM B340 := by rw [eB340]; exact gI_sF hIB338 sm_0 rfl (gz_any _)
        have hJB340 : JN B340 := JN_sF eB340 hJB338
        have jB340_0_7 : (fZ B340 0 7).toInt = (fZ B338 0 7).toInt := by rw [eB340, fZ_sF_ne (by decide)]
        have jB340_0_19 : (fZ B340 0 19).toInt = (fZ B338 0 19).toInt := by rw [eB340, fZ_sF_ne (by decide)]
        refine g_aload_n rfl ?_
        refine g_aload_n rfl ?_
        refine g_gfk (mS_I hIB340 (by omega) (by omega) (by omega)) sm_0 rfl (mS_g13 hIB340) ?_
        refine g_if_ne (fun c341 => ?_) (fun c341 => ?_)
        · refine g_aload_n rfl ?_
          refine g_gfk (mS_I hIB340 (by omega) (by omega) (by omega)) sm_0 rfl (mS_g14 hIB340) ?_
          refine g_nop ?_
          refine g_pfi (mS_I hIB340 (by omega) (by omega) (by omega)) sm_0 rfl (gz_any _) (fun H342 eH342 hIH342 => ?_)
          obtain ⟨B343, eB343⟩ : ∃ z, z = sF B340 0 16 z332 := ⟨_, rfl⟩
          obtain rfl : H342 = (mS B343 z326 z327 z328 z329 z330 z331 z332) := by rw [eH342, eB343]; exact mS_cF (by decide)
          have hIB343 : gI SM B343 := by rw [eB343]; exact gI_sF hIB340 sm_0 rfl (gz_any _)
          have hJB343 : JN B343 := JN_sF eB343 hJB340
          have jB343_0_7 : (fZ B343 0 7).toInt = (fZ B340 0 7).toInt := by rw [eB343, fZ_sF_ne (by decide)]
          have jB343_0_19 : (fZ B343 0 19).toInt = (fZ B340 0 19).toInt := by rw [eB343, fZ_sF_ne (by decide)]
          refine g_aload_n rfl ?_
          refine g_gfk (mS_I hIB343 (by omega) (by omega) (by omega)) sm_0 rfl (mS_g13 hIB343) ?_
          refine g_if_eq (fun c344 => ?_) (fun c344 => ?_)
          · exfalso; omega
          · refine g_iconst (by decide) (fun v345 kv345 => ?_)
            exact g_iret ⟨_, rfl, B343, z326, z327, z328, z329, z330, z331, z332, rfl, hIB343, hJB343, (by omega), (by omega), (by omega), (rd_fin1 q0 eB338 eB340 eB343 hIB333 hIB338 hIB340 q4 hst (by omega) (by omega) (by have := bx.op rpq; omega) (by omega) (by omega))⟩
        · refine g_iconst (by decide) (fun v346 kv346 => ?_)
          refine g_goto ?_
          refine g_pfi (mS_I hIB340 (by omega) (by omega) (by omega)) sm_0 rfl (gz_any _) (fun H347 eH347 hIH347 => ?_)
          obtain ⟨B348, eB348⟩ : ∃ z, z = sF B340 0 16 v346 := ⟨_, rfl⟩
          obtain rfl : H347 = (mS B348 z326 z327 z328 z329 z330 z331 z332) := by rw [eH347, eB348]; exact mS_cF (by decide)
          have hIB348 : gI SM B348 := by rw [eB348]; exact gI_sF hIB340 sm_0 rfl (gz_any _)
          have hJB348 : JN B348 := JN_sF eB348 hJB340
          have jB348_0_7 : (fZ B348 0 7).toInt = (fZ B340 0 7).toInt := by rw [eB348, fZ_sF_ne (by decide)]
          have jB348_0_19 : (fZ B348 0 19).toInt = (fZ B340 0 19).toInt := by rw [eB348, fZ_sF_ne (by decide)]
          refine g_aload_n rfl ?_
          refine g_gfk (mS_I hIB348 (by omega) (by omega) (by omega)) sm_0 rfl (mS_g13 hIB348) ?_
          refine g_if_eq (fun c349 => ?_) (fun c349 => ?_)
          · exfalso; omega
          · exfalso; omega
      · refine g_aload_n rfl ?_
        refine g_gfk (mS_I hIB333 (by omega) (by omega) (by omega)) sm_0 rfl (mS_g10 hIB333) ?_
        refine g_iconst (by decide) (fun v350 kv350 => ?_)
        refine g_if2_eq (fun c351 => ?_) (fun c351 => ?_)
        · have hst : pStop T (pIt a2.toInt T (fZ B333 0 19).toInt.toNat c).2 := Or.inr (by omega)
          refine g_aload_n rfl ?_
          refine g_iconst (by decide) (fun v352 kv352 => ?_)
          refine g_pfi (mS_I hIB333 (by omega) (by omega) (by omega)) sm_0 rfl (by omega) (fun H353 eH353 hIH353 => ?_)
          obtain ⟨B354, eB354⟩ : ∃ z, z = sF B333 0 2 v352 := ⟨_, rfl⟩
          obtain rfl : H353 = (mS B354 z326 z327 z328 z329 z330 z331 z332) := by rw [eH353, eB354]; exact mS_cF (by decide)
          have hIB354 : gI SM B354 := by rw [eB354]; exact gI_sF hIB333 sm_0 rfl (by omega)
          have hJB354 : JN B354 := JN_sF eB354 hJB333
          have jB354_0_7 : (fZ B354 0 7).toInt = (fZ B333 0 7).toInt := by rw [eB354, fZ_sF_ne (by decide)]
          have jB354_0_19 : (fZ B354 0 19).toInt = (fZ B333 0 19).toInt := by rw [eB354, fZ_sF_ne (by decide)]
          refine g_aload_n rfl ?_
          refine g_aload_n rfl ?_
          refine g_gfk (mS_I hIB354 (by omega) (by omega) (by omega)) sm_0 rfl (mS_g13 hIB354) ?_
          refine g_pfi (mS_I hIB354 (by omega) (by omega) (by omega)) sm_0 rfl (gz_any _) (fun H355 eH355 hIH355 => ?_)
          obtain ⟨B356, eB356⟩ : ∃ z, z = sF B354 0 15 z331 := ⟨_, rfl⟩
          obtain rfl : H355 = (mS B356 z326 z327 z328 z329 z330 z331 z332) := by rw [eH355, eB356]; exact mS_cF (by decide)
          have hIB356 : gI SM B356 := by rw [eB356]; exact gI_sF hIB354 sm_0 rfl (gz_any _)
          have hJB356 : JN B356 := JN_sF eB356 hJB354
          have jB356_0_7 : (fZ B356 0 7).toInt = (fZ B354 0 7).toInt := by rw [eB356, fZ_sF_ne (by decide)]
          have jB356_0_19 : (fZ B356 0 19).toInt = (fZ B354 0 19).toInt := by rw [eB356, fZ_sF_ne (by decide)]
          refine g_aload_n rfl ?_
          refine g_aload_n rfl ?_
          refine g_gfk (mS_I hIB356 (by omega) (by omega) (by omega)) sm_0 rfl (mS_g13 hIB356) ?_
          refine g_if_ne (fun c357 => ?_) (fun c357 => ?_)
          · exfalso; omega
          · refine g_iconst (by decide) (fun v358 kv358 => ?_)
            refine g_goto ?_
            refine g_pfi (mS_I hIB356 (by omega) (by omega) (by omega)) sm_0 rfl (gz_any _) (fun H359 eH359 hIH359 => ?_)
            obtain ⟨B360, eB360⟩ : ∃ z, z = sF B356 0 16 v358 := ⟨_, rfl⟩
            obtain rfl : H359 = (mS B360 z326 z327 z328 z329 z330 z331 z332) := by rw [eH359, eB360]; exact mS_cF (by decide)
            have hIB360 : gI SM B360 := by rw [eB360]; exact gI_sF hIB356 sm_0 rfl (gz_any _)
            have hJB360 : JN B360 := JN_sF eB360 hJB356
            have jB360_0_7 : (fZ B360 0 7).toInt = (fZ B356 0 7).toInt := by rw [eB360, fZ_sF_ne (by decide)]
            have jB360_0_19 : (fZ B360 0 19).toInt = (fZ B356 0 19).toInt := by rw [eB360, fZ_sF_ne (by decide)]
            refine g_aload_n rfl ?_
            refine g_gfk (mS_I hIB360 (by omega) (by omega) (by omega)) sm_0 rfl (mS_g13 hIB360) ?_
            refine g_if_eq (fun c361 => ?_) (fun c361 => ?_)
            · refine g_aload_n rfl ?_
              refine g_invvv (mS_I hIB360 (by omega) (by omega) (by omega)) sm_0 rfl rfl rfl rfl (f_174m B360 hIB360 hJB360 z326 z327 z328 z329 z330 z331 z332 (by omega) (by omega) (by omega)) (fun H362 r363 => ?_)
              obtain ⟨B369, rfl, hIB369, hJB369, zp364, zp365, zp366, zp367, zp368⟩ := r363
              refine g_aload_n rfl ?_
              refine g_gfi (mS_I hIB369 (by omega) (by omega) (by omega)) sm_0 rfl (fun v370 ev370 lv370 uv370 => ?_)
              have iv370 : v370.toInt = (fZ B369 0 19).toInt := by rw [ev370, ← mS_o (by decide)]
              exact g_iret ⟨_, rfl, B369, z326, z327, z328, z329, z330, z331, z332, rfl, hIB369, hJB369, (by omega), (by omega), (by omega), (rd_fin2 q0 eB354 eB356 eB360 hIB333 hIB354 hIB356 q4 hst (q2.resolve_left (by omega)) (JN_n30 hJB333 rfl) (JN_n32 hJB333 rfl) (by omega) (by omega) (by omega) (by omega) (by omega) zp364 zp365 zp366 zp367 zp368)⟩
            · exfalso; omega
        · refine g_aload_n rfl ?_
          refine g_iload_n rfl ?_
          refine g_invvv (mS_I hIB333 (by omega) (by omega) (by omega)) sm_0 rfl rfl rfl rfl (f_171 a2 (by omega) B333 hIB333 hJB333 z326 z327 z328 z329 z330 z331 z332 (by omega) (by omega) (by omega) q1 q3 (q2.resolve_left (by omega)) (by omega) (by omega)) (fun H371 r372 => ?_)
          obtain ⟨B385, y373, y374, y375, y376, y377, y378, y379, rfl, hIB385, hJB385, by373, by374, by375, zp380, zp381, zp382, zp383, zp384⟩ := r372
          obtain ⟨-, rbzp380, -, rdzp380, -, -⟩ := id zp380
          have lim := it_lim q4 hp0.2 (by omega) (by omega)
          refine g_goto ?_
          exact ihL334 y373 y374 y375 y376 y377 y378 y379 B385 (by omega) (by omega) (by omega) hIB385 hJB385 (frL_t q0 zp383) zp381 (by rw [it_st (n := (fZ B333 0 19).toInt.toNat) (by omega)]; exact zp382) (by rw [it_st (n := (fZ B333 0 19).toInt.toNat) (by omega)]; exact zp380) (gs_st q4 (by omega) (fun h => by unfold pStop at h; omega)) (by omega) (by omega)
  exact L334 _ y320 y321 y322 y323 y324 v313 x6 B317 (by omega) (by omega) (by omega) hIB317 hJB317 frB317 (tk_0m hp0 frB317 (by omega)) (Or.inr (by rw [it_0 (by omega)]; exact bkB317)) (by rw [it_0 (by omega)]; exact rd_0m (tk_0m hp0 frB317 (by omega)) (by omega) (by omega) (by omega) zp325) (gs_0 (by omega)) (by omega) (Nat.lt_succ_self _)
theorem rdT_mS {H B : mzH} {told : Int} {T : pT} {c : pB} {v x0 x1 x2 x3 x4 x5 x6 : Int32} (h : rdT H B told T c v) : rdT H (mS B x0 x1 x2 x3 x4 x5 x6) told T c v := by
  have o : ∀ f, (f ≠ 8 ∧ f ≠ 9 ∧ f ≠ 10 ∧ f ≠ 11 ∧ f ≠ 12 ∧ f ≠ 13 ∧ f ≠ 14) → fZ (mS B x0 x1 x2 x3 x4 x5 x6) 0 f = fZ B 0 f := fun f hf => (mS_o (Or.inr hf)).symm
  obtain ⟨k, h1, h2, h3, h4, h5⟩ := h
  refine ⟨k, h1, h2, by rw [o 2 (by decide)]; exact h3, by rw [o 15 (by decide)]; exact h4, ?_⟩
  rcases h5 with ⟨a1, a2, a3, a4, a5, a6⟩ | ⟨a1, a2, a3, a4⟩
  · exact Or.inl ⟨a1, a2, by rw [o 16 (by decide)]; exact a3, fun i => by rw [mS_a]; exact a4 i, fun i => by rw [mS_a]; exact a5 i, by rw [o 18 (by decide)]; exact a6⟩
  · refine Or.inr ⟨a1, a2, by rw [o 16 (by decide)]; exact a3, ?_⟩
    unfold bkW bkG at a4 ⊢
    simp only [mS_a, o 18 (by decide)]
    exact a4
theorem e_173 {b : Nat → Int} {n : Nat} {T : pT} {c : pB} (a1 : Int32) (ha1 : 0 ≤ a1.toInt ∧ a1.toInt ≤ 900) (a2 : Int32) (ha2 : 0 ≤ a2.toInt ∧ a2.toInt ≤ 1) (H : mzH) (hI : gI SM H) (hJ : JN H) (hp0 : (∀ q, q < n → sgB (b q) (bM H q)) ∧ tkA b n T.K T.S T.V T.M) (hp1 : a1.toInt = (n : Int)) (hp2 : bkM H c) : gCall 173 [.ref 0, .int a1, .int a2] H (gRi (fun v H' => gI SM H' ∧ JN H' ∧ rdT H H' a2.toInt T c v)) := by
  have key := f_173 a1 ha1 a2 ha2 H hI hJ (fZ H 0 8) (fZ H 0 9) (fZ H 0 10) (fZ H 0 11) (fZ H 0 12) (fZ H 0 13) (fZ H 0 14) (fZ_of hI sm_0 rfl) (fZ_of hI sm_0 rfl) (fZ_of hI sm_0 rfl) hp0 hp1 hp2
  rw [mS_self hI rfl rfl rfl rfl rfl rfl rfl] at key
  refine gGo_mono key ?_
  rintro o H' ⟨v, rfl, B, y0, y1, y2, y3, y4, y5, y6, rfl, hB, hJB, b0, b1, b2, h⟩
  exact ⟨v, rfl, mS_I hB b0 b1 b2, mS_J hJB, rdT_mS h⟩
