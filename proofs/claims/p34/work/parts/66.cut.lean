/-- the class's tokens as they lie in the rows -/
def kX (H : mzH) (t : Nat) : Int := (aZ H 21 t).toInt
def sX (H : mzH) (t : Nat) : Int := (aZ H 22 t).toInt
def vX (H : mzH) (t : Nat) : Int := (aZ H 23 t).toInt
/-- one token more -/
def adP (H B : mzH) (k s v : Int32) : Prop := (∀ c, c ≠ 20 → c ≠ 21 → c ≠ 22 → c ≠ 23 → B[c]? = H[c]?) ∧ fZ B 20 5 = fZ H 20 5 ∧ (fZ B 20 4).toInt = (fZ H 20 4).toInt + 1 ∧ (∀ i, aZ B 21 i = if i = (fZ H 20 4).toInt.toNat then k else aZ H 21 i) ∧ (∀ i, aZ B 22 i = if i = (fZ H 20 4).toInt.toNat then s else aZ H 22 i) ∧ (∀ i, aZ B 23 i = if i = (fZ H 20 4).toInt.toNat then v else aZ H 23 i)
theorem c_sF {H : mzH} {a f c : Nat} {v : Int32} (h : c ≠ a) : (sF H a f v)[c]? = H[c]? := by
  rcases gz_sF (H := H) (a := a) (f := f) (v := v) c with e | ⟨e, _⟩
  · exact e
  · exact absurd e.symm h
theorem c_sA {H : mzH} {a i c : Nat} {v : Int32} (h : c ≠ a) : (sA H a i v)[c]? = H[c]? := by
  rcases gz_sA (H := H) (a := a) (i := i) (v := v) c with e | ⟨e, _⟩
  · exact e
  · exact absurd e.symm h
theorem aZ_if {S : List gSp} {H : mzH} {a d n i j : Nat} {lo hi : Int} {v : Int32} (hI : gI S H) (hs : S[a]? = some (.inl (d, n, lo, hi))) (hi2 : i < n) (hj : i = j) (g : Nat) : aZ (sA H a i v) a g = if g = j then v else aZ H a g := by
  subst hj
  split
  · rename_i h
    subst h
    exact aZ_sA_eq hI hs hi2
  · rename_i h
    exact aZ_sA_ne (fun e => h e.symm)
theorem ad_mk {H B1 B2 B3 B4 : mzH} {i1 i2 i3 k s v w : Int32} (hI : gI SX H) (hI1 : gI SX B1) (hI2 : gI SX B2) (hI3 : gI SX B3) (e1 : B1 = sA H 21 i1.toInt.toNat k) (e2 : B2 = sA B1 22 i2.toInt.toNat s) (e3 : B3 = sA B2 23 i3.toInt.toNat v) (e4 : B4 = sF B3 20 4 w) (h1 : i1.toInt = (fZ H 20 4).toInt ∧ 0 ≤ i1.toInt ∧ i1.toInt ≤ 900) (h2 : i2.toInt = (fZ H 20 4).toInt) (h3 : i3.toInt = (fZ H 20 4).toInt) (h4 : w.toInt = (fZ H 20 4).toInt + 1) : adP H B4 k s v := by
  refine ⟨fun c a1 a2 a3 a4 => ?_, ?_, ?_, fun i => ?_, fun i => ?_, fun i => ?_⟩
  · rw [e4, c_sF a1, e3, c_sA a4, e2, c_sA a3, e1, c_sA a2]
  · rw [e4, fZ_sF_ne (by decide), e3, fZ_sA, e2, fZ_sA, e1, fZ_sA]
  · rw [e4, fZ_sF_eq hI3 sx_20 rfl, h4]
  · rw [e4, aZ_sF, e3, aZ_sA_nc (by decide), e2, aZ_sA_nc (by decide), e1, aZ_if hI sx_21 (by first | with_reducible assumption | omega) (show _ = (fZ H 20 4).toInt.toNat by omega)]
  · rw [e4, aZ_sF, e3, aZ_sA_nc (by decide), e2, aZ_if hI1 sx_22 (by first | with_reducible assumption | omega) (show _ = (fZ H 20 4).toInt.toNat by omega), e1, aZ_sA_nc (by decide)]
  · rw [e4, aZ_sF, e3, aZ_if hI2 sx_23 (by first | with_reducible assumption | omega) (show _ = (fZ H 20 4).toInt.toNat by omega), e2, aZ_sA_nc (by decide), e1, aZ_sA_nc (by decide)]
theorem sk_le {b : Nat → Int} {n i p : Nat} (h : skP b n i p) : i ≤ p ∧ p ≤ n := ⟨h.1, h.2.1⟩
theorem tk_le {b : Nat → Int} {n s e : Nat} {k v : Int} (h : tkX b n s e k v) : s < e ∧ e ≤ n := by
  rcases h with ⟨h, _⟩ | ⟨h, _⟩ | ⟨_, _, h1, h2, _⟩
  · exact ⟨h.1, h.2.1⟩
  · exact ⟨h.1, h.2.1⟩
  · omega
/-- the first m tokens: they end at e -/
def tkL (b : Nat → Int) (n : Nat) (K S V : Nat → Int) : Nat → Nat → Prop
  | 0, e => e = 0
  | m + 1, e => ∃ d, tkL b n K S V m d ∧ 0 ≤ S m ∧ skP b n d (S m).toNat ∧ tkX b n (S m).toNat e (K m) (V m)
theorem tkL_cg {b : Nat → Int} {n : Nat} {K S V K' S' V' : Nat → Int} : ∀ {m e : Nat}, (∀ t, t < m → K' t = K t ∧ S' t = S t ∧ V' t = V t) → tkL b n K S V m e → tkL b n K' S' V' m e
  | 0, _, _, h => h
  | m + 1, e, hc, ⟨d, h1, h2, h3, h4⟩ => by
    obtain ⟨e1, e2, e3⟩ := hc m (by first | with_reducible assumption | omega)
    exact ⟨d, tkL_cg (fun t ht => hc t (by first | with_reducible assumption | omega)) h1, by rw [e2]; exact h2, by rw [e2]; exact h3, by rw [e1, e2, e3]; exact h4⟩
/-- all tokens, and the stop behind them -/
def tkA (b : Nat → Int) (n : Nat) (K S V : Nat → Int) (M : Nat) : Prop := (∃ e, tkL b n K S V M e ∧ skP b n e n) ∧ K M = 21 ∧ S M = n
/-- but for the tokens all is as it was -/
def frT (H B : mzH) : Prop := ∀ c, c ≠ 20 → c ≠ 21 → c ≠ 22 → c ≠ 23 → B[c]? = H[c]?
theorem fr_bX {H B : mzH} (h : frT H B) : bX B = bX H := by
  funext k
  unfold bX
  rw [aZ_cg (h 2 (by decide) (by decide) (by decide) (by decide))]
theorem fr_2 {H B1 B2 : mzH} {v w : Int32} (e1 : B1 = sF H 20 5 v) (e2 : B2 = sF B1 20 4 w) : frT H B2 := fun c h _ _ _ => by rw [e2, c_sF h, e1, c_sF h]
def cuI (b : Nat → Int) (n : Nat) (B : mzH) (m z : Nat) : Prop := ∃ e, tkL b n (kX B) (sX B) (vX B) m e ∧ skP b n e z
theorem cu_0 {H B : mzH} {n l m x z : Nat} (hf : frT H B) (hl : l = n) (h : skP (bX B) l x z) (hx : x = 0) (hm : m = 0) : cuI (bX H) n B m z := by
  subst hl hx hm
  rw [fr_bX hf] at h
  exact ⟨0, rfl, h⟩
theorem fr_ad {H B B' : mzH} {k s v : Int32} (q0 : frT H B) (ha : adP B B' k s v) : frT H B' := fun c h1 h2 h3 h4 => (ha.1 c h1 h2 h3 h4).trans (q0 c h1 h2 h3 h4)
theorem cu_st {H B B' : mzH} {n l l' m m' z y y' : Nat} {k s v : Int32} (q0 : frT H B) (q4 : cuI (bX H) n B m z) (hm : (fZ B 20 4).toInt.toNat = m) (hl : l = n) (ht : tkX (bX B) l z y k.toInt v.toInt) (hs : s.toInt.toNat = z) (hs0 : 0 ≤ s.toInt) (ha : adP B B' k s v) (hk : skP (bX B') l' y y') (hl' : l' = n) (hm' : m' = m + 1) : frT H B' ∧ cuI (bX H) n B' m' y' := by
  have hf := fr_ad q0 ha
  refine ⟨hf, ?_⟩
  subst hl hl' hm'
  rw [fr_bX hf] at hk
  rw [fr_bX q0] at ht
  obtain ⟨e, h1, h2⟩ := q4
  obtain ⟨-, -, -, a1, a2, a3⟩ := ha
  rw [hm] at a1 a2 a3
  have k1 : kX B' m = k.toInt := by unfold kX; rw [a1, if_pos rfl]
  have k2 : sX B' m = s.toInt := by unfold sX; rw [a2, if_pos rfl]
  have k3 : vX B' m = v.toInt := by unfold vX; rw [a3, if_pos rfl]
  refine ⟨y, ⟨e, tkL_cg (fun t ht => ?_) h1, by rw [k2]; exact hs0, by rw [k2, hs]; exact h2, by rw [k1, k2, k3, hs]; exact ht⟩, hk⟩
  unfold kX sX vX
  rw [a1, a2, a3, if_neg (by first | with_reducible assumption | omega), if_neg (by first | with_reducible assumption | omega), if_neg (by first | with_reducible assumption | omega)]
  exact ⟨rfl, rfl, rfl⟩
theorem cu_end {H B B' : mzH} {n m M z : Nat} {k s v : Int32} (q0 : frT H B) (q4 : cuI (bX H) n B m z) (hm : (fZ B 20 4).toInt.toNat = m) (hz : z = n) (hs : s.toInt = n) (hk : k.toInt = 21) (ha : adP B B' k s v) (hM : M = m) (_ : M = M) : tkA (bX H) n (kX B') (sX B') (vX B') M := by
  subst hM
  obtain ⟨e, h1, h2⟩ := q4
  obtain ⟨-, -, -, a1, a2, a3⟩ := ha
  rw [hm] at a1 a2 a3
  subst hz
  refine ⟨⟨e, tkL_cg (fun t ht => ?_) h1, h2⟩, ?_, ?_⟩
  · unfold kX sX vX
    rw [a1, a2, a3, if_neg (by first | with_reducible assumption | omega), if_neg (by first | with_reducible assumption | omega), if_neg (by first | with_reducible assumption | omega)]
    exact ⟨rfl, rfl, rfl⟩
  · unfold kX
    rw [a1, if_pos rfl]
    exact hk
  · unfold sX
    rw [a2, if_pos rfl]
    exact hs
set_option maxRecDepth 4000 in
set_option maxHeartbeats 4000000 in
/-- X7.add, exactly -/
theorem f_74 (a1 : Int32) (ha1 : 0 ≤ a1.toInt ∧ a1.toInt ≤ 22) (a2 : Int32) (ha2 : 0 ≤ a2.toInt ∧ a2.toInt ≤ 900) (H : mzH) (hI : gI SX H) (hJ : JX H) (x0 x1 : Int32) (hx0 : 0 ≤ x0.toInt ∧ x0.toInt ≤ 900) (hp0 : (fZ H 20 4).toInt ≤ 900) : gCall 74 [.ref 20, .int a1, .int a2] (tS H x0 x1) (gRv (fun H' => ∃ B : mzH, H' = tS B x0 x1 ∧ gI SX B ∧ JX B ∧ adP H B a1 a2 x1)) := by
  refine gG_call [(0, .ref 20), (1, .int a1), (2, .int a2)] ⟨rfl, rfl, rfl, trivial⟩ ?_
  show gG 3 zB_74 (mzBlk zB_74 0) [(0, .ref 20), (1, .int a1), (2, .int a2)] [] (tS H x0 x1) 0 0 _
  refine g_aload_n rfl ?_
  refine g_gfi (tS_I hI (by first | with_reducible assumption | omega)) sx_20 rfl (fun v69 ev69 lv69 uv69 => ?_)
  have iv69 : v69.toInt = (fZ H 20 4).toInt := by rw [ev69, ← tS_o (by decide)]
  refine g_aload_n rfl ?_
  refine g_gfr (tS_I hI (by first | with_reducible assumption | omega)) sx_20 rfl ?_
  refine g_len (tS_I hI (by first | with_reducible assumption | omega)) sx_21 (by decide) (fun v70 kv70 => ?_)
  refine g_if2_ge (fun c71 => ?_) (fun c71 => ?_)
  · exact g_ret ⟨rfl, H, rfl, hI, hJ, (by exfalso; omega)⟩
  · refine g_aload_n rfl ?_
    refine g_gfr (tS_I hI (by first | with_reducible assumption | omega)) sx_20 rfl ?_
    refine g_aload_n rfl ?_
    refine g_gfi (tS_I hI (by first | with_reducible assumption | omega)) sx_20 rfl (fun v72 ev72 lv72 uv72 => ?_)
    have iv72 : v72.toInt = (fZ H 20 4).toInt := by rw [ev72, ← tS_o (by decide)]
    refine g_iload_n rfl ?_
    refine g_iastore (tS_I hI (by first | with_reducible assumption | omega)) sx_21 (by first | with_reducible assumption | omega) (gz_any _) (fun H73 eH73 hIH73 => ?_)
    obtain ⟨B74, eB74⟩ : ∃ z, z = sA H 21 v72.toInt.toNat a1 := ⟨_, rfl⟩
    obtain rfl : H73 = (tS B74 x0 x1) := by rw [eH73, eB74]; exact tS_cA
    have hIB74 : gI SX B74 := by rw [eB74]; exact gI_sA hI sx_21 (gz_any _)
    have hJB74 : JX B74 := JX_sA (by decide) eB74 hJ
    have jB74_20_4 : (fZ B74 20 4).toInt = (fZ H 20 4).toInt := by rw [eB74, fZ_sA]
    refine g_aload_n rfl ?_
    refine g_gfr (tS_I hIB74 (by first | with_reducible assumption | omega)) sx_20 rfl ?_
    refine g_aload_n rfl ?_
    refine g_gfi (tS_I hIB74 (by first | with_reducible assumption | omega)) sx_20 rfl (fun v75 ev75 lv75 uv75 => ?_)
    have iv75 : v75.toInt = (fZ B74 20 4).toInt := by rw [ev75, ← tS_o (by decide)]
    refine g_iload_n rfl ?_
    refine g_iastore (tS_I hIB74 (by first | with_reducible assumption | omega)) sx_22 (by first | with_reducible assumption | omega) (gz_any _) (fun H76 eH76 hIH76 => ?_)
    obtain ⟨B77, eB77⟩ : ∃ z, z = sA B74 22 v75.toInt.toNat a2 := ⟨_, rfl⟩
    obtain rfl : H76 = (tS B77 x0 x1) := by rw [eH76, eB77]; exact tS_cA
    have hIB77 : gI SX B77 := by rw [eB77]; exact gI_sA hIB74 sx_22 (gz_any _)
    have hJB77 : JX B77 := JX_sA (by decide) eB77 hJB74
    have jB77_20_4 : (fZ B77 20 4).toInt = (fZ B74 20 4).toInt := by rw [eB77, fZ_sA]
    refine g_aload_n rfl ?_
    refine g_gfr (tS_I hIB77 (by first | with_reducible assumption | omega)) sx_20 rfl ?_
    refine g_aload_n rfl ?_
    refine g_gfi (tS_I hIB77 (by first | with_reducible assumption | omega)) sx_20 rfl (fun v78 ev78 lv78 uv78 => ?_)
    have iv78 : v78.toInt = (fZ B77 20 4).toInt := by rw [ev78, ← tS_o (by decide)]
    refine g_aload_n rfl ?_
    refine g_gfk (tS_I hIB77 (by first | with_reducible assumption | omega)) sx_20 rfl (tS_g7 hIB77) ?_
    refine g_iastore (tS_I hIB77 (by first | with_reducible assumption | omega)) sx_23 (by first | with_reducible assumption | omega) (gz_any _) (fun H79 eH79 hIH79 => ?_)
    obtain ⟨B80, eB80⟩ : ∃ z, z = sA B77 23 v78.toInt.toNat x1 := ⟨_, rfl⟩
    obtain rfl : H79 = (tS B80 x0 x1) := by rw [eH79, eB80]; exact tS_cA
    have hIB80 : gI SX B80 := by rw [eB80]; exact gI_sA hIB77 sx_23 (gz_any _)
    have hJB80 : JX B80 := JX_sA (by decide) eB80 hJB77
    have jB80_20_4 : (fZ B80 20 4).toInt = (fZ B77 20 4).toInt := by rw [eB80, fZ_sA]
    refine g_aload_n rfl ?_
    refine g_dup rfl ?_
    refine g_gfi (tS_I hIB80 (by first | with_reducible assumption | omega)) sx_20 rfl (fun v81 ev81 lv81 uv81 => ?_)
    have iv81 : v81.toInt = (fZ B80 20 4).toInt := by rw [ev81, ← tS_o (by decide)]
    refine g_iconst (by decide) (fun v82 kv82 => ?_)
    refine g_iadd (by first | with_reducible assumption | omega) (fun v83 ev83 => ?_)
    refine g_pfi (tS_I hIB80 (by first | with_reducible assumption | omega)) sx_20 rfl (by first | with_reducible assumption | omega) (fun H84 eH84 hIH84 => ?_)
    obtain ⟨B85, eB85⟩ : ∃ z, z = sF B80 20 4 v83 := ⟨_, rfl⟩
    obtain rfl : H84 = (tS B85 x0 x1) := by rw [eH84, eB85]; exact tS_cF (by decide)
    have hIB85 : gI SX B85 := by rw [eB85]; exact gI_sF hIB80 sx_20 rfl (by first | with_reducible assumption | omega)
    have hJB85 : JX B85 := JX_sF eB85 hJB80
    have jB85_20_4 : (fZ B85 20 4).toInt = v83.toInt := by rw [eB85, fZ_sF_eq hIB80 sx_20 rfl]
    refine g_nop ?_
    exact g_ret ⟨rfl, B85, rfl, hIB85, hJB85, (ad_mk hI hIB74 hIB77 hIB80 eB74 eB77 eB80 eB85 (by first | with_reducible assumption | omega) (by first | with_reducible assumption | omega) (by first | with_reducible assumption | omega) (by first | with_reducible assumption | omega))⟩
set_option maxRecDepth 4000 in
set_option maxHeartbeats 4000000 in
/-- X7.cut, exactly -/
theorem f_73 (a1 : Int32) (ha1 : 0 ≤ a1.toInt ∧ a1.toInt ≤ 900) (H : mzH) (hI : gI SX H) (hJ : JX H) (x0 x1 : Int32) (hx0 : 0 ≤ x0.toInt ∧ x0.toInt ≤ 900) (hp0 : a1.toInt ≤ (fZ H 1 1).toInt) : gCall 73 [.ref 20, .int a1] (tS H x0 x1) (gRv (fun H' => ∃ B : mzH, ∃ y0 y1 : Int32, H' = tS B y0 y1 ∧ gI SX B ∧ JX B ∧ (0 ≤ y0.toInt ∧ y0.toInt ≤ 900) ∧ frT H B ∧ 1 ≤ (fZ B 20 4).toInt ∧ tkA (bX H) a1.toInt.toNat (kX B) (sX B) (vX B) ((fZ B 20 4).toInt.toNat - 1))) := by
  refine gG_call [(0, .ref 20), (1, .int a1)] ⟨rfl, rfl, trivial⟩ ?_
  show gG 5 zB_73 (mzBlk zB_73 0) [(0, .ref 20), (1, .int a1)] [] (tS H x0 x1) 0 0 _
  refine g_aload_n rfl ?_
  refine g_iconst (by decide) (fun v889 kv889 => ?_)
  refine g_iload_n rfl ?_
  refine g_aload_n rfl ?_
  refine g_gfr (tS_I hI (by first | with_reducible assumption | omega)) sx_20 rfl ?_
  refine g_gfi (tS_I hI (by first | with_reducible assumption | omega)) sx_1 rfl (fun v890 ev890 lv890 uv890 => ?_)
  have iv890 : v890.toInt = (fZ H 1 1).toInt := by rw [ev890, ← tS_o (by decide)]
  refine g_min rfl (fun v891 av891 bv891 dv891 => ?_)
  refine g_max rfl (fun v892 av892 bv892 dv892 => ?_)
  refine g_pfi (tS_I hI (by first | with_reducible assumption | omega)) sx_20 rfl (by first | with_reducible assumption | omega) (fun H893 eH893 hIH893 => ?_)
  obtain ⟨B894, eB894⟩ : ∃ z, z = sF H 20 5 v892 := ⟨_, rfl⟩
  obtain rfl : H893 = (tS B894 x0 x1) := by rw [eH893, eB894]; exact tS_cF (by decide)
  have hIB894 : gI SX B894 := by rw [eB894]; exact gI_sF hI sx_20 rfl (by first | with_reducible assumption | omega)
  have hJB894 : JX B894 := JX_sF eB894 hJ
  have jB894_20_4 : (fZ B894 20 4).toInt = (fZ H 20 4).toInt := by rw [eB894, fZ_sF_ne (by decide)]
  have jB894_20_5 : (fZ B894 20 5).toInt = v892.toInt := by rw [eB894, fZ_sF_eq hI sx_20 rfl]
  have jB894_1_1 : (fZ B894 1 1).toInt = (fZ H 1 1).toInt := by rw [eB894, fZ_sF_nc (by decide)]
  refine g_aload_n rfl ?_
  refine g_iconst (by decide) (fun v895 kv895 => ?_)
  refine g_pfi (tS_I hIB894 (by first | with_reducible assumption | omega)) sx_20 rfl (by first | with_reducible assumption | omega) (fun H896 eH896 hIH896 => ?_)
  obtain rfl : H896 = (tS B894 v895 x1) := eH896.trans (tS_s6 hIB894)
  refine g_aload_n rfl ?_
  refine g_iconst (by decide) (fun v897 kv897 => ?_)
  refine g_pfi (tS_I hIB894 (by first | with_reducible assumption | omega)) sx_20 rfl (by first | with_reducible assumption | omega) (fun H898 eH898 hIH898 => ?_)
  obtain ⟨B899, eB899⟩ : ∃ z, z = sF B894 20 4 v897 := ⟨_, rfl⟩
  obtain rfl : H898 = (tS B899 v895 x1) := by rw [eH898, eB899]; exact tS_cF (by decide)
  have hIB899 : gI SX B899 := by rw [eB899]; exact gI_sF hIB894 sx_20 rfl (by first | with_reducible assumption | omega)
  have hJB899 : JX B899 := JX_sF eB899 hJB894
  have jB899_20_4 : (fZ B899 20 4).toInt = v897.toInt := by rw [eB899, fZ_sF_eq hIB894 sx_20 rfl]
  have jB899_20_5 : (fZ B899 20 5).toInt = (fZ B894 20 5).toInt := by rw [eB899, fZ_sF_ne (by decide)]
  have jB899_1_1 : (fZ B899 1 1).toInt = (fZ B894 1 1).toInt := by rw [eB899, fZ_sF_nc (by decide)]
  refine g_aload_n rfl ?_
  refine g_invvv (tS_I hIB899 (by first | with_reducible assumption | omega)) sx_20 rfl rfl rfl rfl (f_75 B899 hIB899 hJB899 v895 x1 (by first | with_reducible assumption | omega) (by first | with_reducible assumption | omega)) (fun H900 r901 => ?_)
  obtain ⟨y902, rfl, by902, zp903⟩ := r901
  have tzp903 := sk_le zp903
  refine g_iconst (by decide) (fun v904 kv904 => ?_)
  refine g_istore_n (l' := [(0, .ref 20), (1, .int a1), (2, .int v904)]) rfl rfl ?_
  refine g_nop ?_
  have L909 : ∀ (N : Nat) (v905 : Int32) (z906 : Int32) (z907 : Int32) (B908 : mzH), (0 ≤ v905.toInt ∧ v905.toInt ≤ 900) → (0 ≤ z906.toInt ∧ z906.toInt ≤ 900) → gI SX B908 → JX B908 → frT H B908 → (fZ B908 20 5).toInt = a1.toInt → (fZ B908 20 4).toInt = v905.toInt → (v905.toInt ≤ z906.toInt ∧ z906.toInt ≤ a1.toInt) → cuI (bX H) a1.toInt.toNat B908 v905.toInt.toNat z906.toInt.toNat → (900 - v905.toInt).toNat < N → gG 5 zB_73 (mzBlk zB_73 1) [(0, .ref 20), (1, .int a1), (2, .int v905)] [] (tS B908 z906 z907) 0 0 (gRv (fun H' => ∃ B : mzH, ∃ y0 y1 : Int32, H' = tS B y0 y1 ∧ gI SX B ∧ JX B ∧ (0 ≤ y0.toInt ∧ y0.toInt ≤ 900) ∧ frT H B ∧ 1 ≤ (fZ B 20 4).toInt ∧ tkA (bX H) a1.toInt.toNat (kX B) (sX B) (vX B) ((fZ B 20 4).toInt.toNat - 1))) := by
    intro N
    induction N with
    | zero => intro v905 z906 z907 B908 bv905 bz906 hIB908 hJB908 q0 q1 q2 q3 q4 hmL909; exact absurd hmL909 (Nat.not_lt_zero _)
    | succ N ihL909 =>
      intro v905 z906 z907 B908 bv905 bz906 hIB908 hJB908 q0 q1 q2 q3 q4 hmL909
      refine g_iload_n rfl ?_
      refine g_sipush (by decide) (fun v910 kv910 => ?_)
      refine g_if2_ge (fun c911 => ?_) (fun c911 => ?_)
      · refine g_aload_n rfl ?_
        refine g_iconst (by decide) (fun v912 kv912 => ?_)
        refine g_pfi (tS_I hIB908 (by first | with_reducible assumption | omega)) sx_20 rfl (gz_any _) (fun H913 eH913 hIH913 => ?_)
        obtain rfl : H913 = (tS B908 z906 v912) := eH913.trans (tS_s7 hIB908)
        refine g_aload_n rfl ?_
        refine g_bipush (by decide) (fun v914 kv914 => ?_)
        refine g_aload_n rfl ?_
        refine g_gfi (tS_I hIB908 (by first | with_reducible assumption | omega)) sx_20 rfl (fun v915 ev915 lv915 uv915 => ?_)
        have iv915 : v915.toInt = (fZ B908 20 5).toInt := by rw [ev915, ← tS_o (by decide)]
        refine g_invvv (tS_I hIB908 (by first | with_reducible assumption | omega)) sx_20 rfl rfl rfl rfl (f_74 v914 (by first | with_reducible assumption | omega) v915 (by first | with_reducible assumption | omega) B908 hIB908 hJB908 z906 v912 (by first | with_reducible assumption | omega) (by first | with_reducible assumption | omega)) (fun H916 r917 => ?_)
        obtain ⟨B919, rfl, hIB919, hJB919, zp918⟩ := r917
        have jazp918 : (fZ B919 20 5).toInt = (fZ B908 20 5).toInt := by rw [zp918.2.1]
        have jbzp918 : (fZ B919 20 4).toInt = (fZ B908 20 4).toInt + 1 := zp918.2.2.1
        exact g_ret ⟨rfl, B919, z906, v912, rfl, hIB919, hJB919, (by first | with_reducible assumption | omega), (fr_ad q0 zp918), (by first | with_reducible assumption | omega), (cu_end q0 q4 (by first | with_reducible assumption | omega) (by first | with_reducible assumption | omega) (by first | with_reducible assumption | omega) (by first | with_reducible assumption | omega) zp918 (by first | with_reducible assumption | omega) (by first | with_reducible assumption | omega))⟩
      · refine g_aload_n rfl ?_
        refine g_gfk (tS_I hIB908 (by first | with_reducible assumption | omega)) sx_20 rfl (tS_g6 hIB908) ?_
        refine g_aload_n rfl ?_
        refine g_gfi (tS_I hIB908 (by first | with_reducible assumption | omega)) sx_20 rfl (fun v920 ev920 lv920 uv920 => ?_)
        have iv920 : v920.toInt = (fZ B908 20 5).toInt := by rw [ev920, ← tS_o (by decide)]
        refine g_if2_ge (fun c921 => ?_) (fun c921 => ?_)
        · refine g_aload_n rfl ?_
          refine g_iconst (by decide) (fun v922 kv922 => ?_)
          refine g_pfi (tS_I hIB908 (by first | with_reducible assumption | omega)) sx_20 rfl (gz_any _) (fun H923 eH923 hIH923 => ?_)
          obtain rfl : H923 = (tS B908 z906 v922) := eH923.trans (tS_s7 hIB908)
          refine g_aload_n rfl ?_
          refine g_bipush (by decide) (fun v924 kv924 => ?_)
          refine g_aload_n rfl ?_
          refine g_gfi (tS_I hIB908 (by first | with_reducible assumption | omega)) sx_20 rfl (fun v925 ev925 lv925 uv925 => ?_)
          have iv925 : v925.toInt = (fZ B908 20 5).toInt := by rw [ev925, ← tS_o (by decide)]
          refine g_invvv (tS_I hIB908 (by first | with_reducible assumption | omega)) sx_20 rfl rfl rfl rfl (f_74 v924 (by first | with_reducible assumption | omega) v925 (by first | with_reducible assumption | omega) B908 hIB908 hJB908 z906 v922 (by first | with_reducible assumption | omega) (by first | with_reducible assumption | omega)) (fun H926 r927 => ?_)
          obtain ⟨B929, rfl, hIB929, hJB929, zp928⟩ := r927
          have jazp928 : (fZ B929 20 5).toInt = (fZ B908 20 5).toInt := by rw [zp928.2.1]
          have jbzp928 : (fZ B929 20 4).toInt = (fZ B908 20 4).toInt + 1 := zp928.2.2.1
          exact g_ret ⟨rfl, B929, z906, v922, rfl, hIB929, hJB929, (by first | with_reducible assumption | omega), (fr_ad q0 zp928), (by first | with_reducible assumption | omega), (cu_end q0 q4 (by first | with_reducible assumption | omega) (by first | with_reducible assumption | omega) (by first | with_reducible assumption | omega) (by first | with_reducible assumption | omega) zp928 (by first | with_reducible assumption | omega) (by first | with_reducible assumption | omega))⟩
        · refine g_aload_n rfl ?_
          refine g_gfk (tS_I hIB908 (by first | with_reducible assumption | omega)) sx_20 rfl (tS_g6 hIB908) ?_
          refine g_istore_n (l' := [(0, .ref 20), (1, .int a1), (2, .int v905), (3, .int z906)]) rfl rfl ?_
          refine g_aload_n rfl ?_
          refine g_iconst (by decide) (fun v930 kv930 => ?_)
          refine g_pfi (tS_I hIB908 (by first | with_reducible assumption | omega)) sx_20 rfl (gz_any _) (fun H931 eH931 hIH931 => ?_)
          obtain rfl : H931 = (tS B908 z906 v930) := eH931.trans (tS_s7 hIB908)
          refine g_aload_n rfl ?_
          refine g_invvi (tS_I hIB908 (by first | with_reducible assumption | omega)) sx_20 rfl rfl rfl rfl (f_76 B908 hIB908 hJB908 z906 v930 (by first | with_reducible assumption | omega) (by first | with_reducible assumption | omega) (by first | with_reducible assumption | omega)) (fun v934 H932 r933 => ?_)
          obtain ⟨y935, y936, rfl, bv934, by935, zp937⟩ := r933
          have tzp937 := tk_le zp937
          refine g_istore (l' := [(0, .ref 20), (1, .int a1), (2, .int v905), (3, .int z906), (4, .int v934)]) rfl rfl ?_
          refine g_aload_n rfl ?_
          refine g_iload rfl ?_
          refine g_iload_n rfl ?_
          refine g_invvv (tS_I hIB908 (by first | with_reducible assumption | omega)) sx_20 rfl rfl rfl rfl (f_74 v934 (by first | with_reducible assumption | omega) z906 (by first | with_reducible assumption | omega) B908 hIB908 hJB908 y935 y936 (by first | with_reducible assumption | omega) (by first | with_reducible assumption | omega)) (fun H938 r939 => ?_)
          obtain ⟨B941, rfl, hIB941, hJB941, zp940⟩ := r939
          have jazp940 : (fZ B941 20 5).toInt = (fZ B908 20 5).toInt := by rw [zp940.2.1]
          have jbzp940 : (fZ B941 20 4).toInt = (fZ B908 20 4).toInt + 1 := zp940.2.2.1
          refine g_aload_n rfl ?_
          refine g_invvv (tS_I hIB941 (by first | with_reducible assumption | omega)) sx_20 rfl rfl rfl rfl (f_75 B941 hIB941 hJB941 y935 y936 (by first | with_reducible assumption | omega) (by first | with_reducible assumption | omega)) (fun H942 r943 => ?_)
          obtain ⟨y944, rfl, by944, zp945⟩ := r943
          have tzp945 := sk_le zp945
          refine g_iinc (l' := (fun v946 => [(0, .ref 20), (1, .int a1), (2, .int v946), (3, .int z906), (4, .int v934)])) rfl rfl (by decide) (by first | with_reducible assumption | omega) (fun _ => rfl) (fun v946 ev946 => ?_)
          refine g_goto ?_
          refine gG_pick [0, 1, 2] (l' := [(0, .ref 20), (1, .int a1), (2, .int v946)]) rfl ?_
          exact ihL909 v946 y944 y936 B941 (by first | with_reducible assumption | omega) (by first | with_reducible assumption | omega) hIB941 hJB941 (fr_ad q0 zp940) (by first | with_reducible assumption | omega) (by first | with_reducible assumption | omega) (by first | with_reducible assumption | omega) (cu_st q0 q4 (by first | with_reducible assumption | omega) (by first | with_reducible assumption | omega) zp937 (by first | with_reducible assumption | omega) (by first | with_reducible assumption | omega) zp940 zp945 (by first | with_reducible assumption | omega) (by first | with_reducible assumption | omega)).2 (by first | with_reducible assumption | omega)
  exact L909 _ v904 y902 x1 B899 (by first | with_reducible assumption | omega) (by first | with_reducible assumption | omega) hIB899 hJB899 (fr_2 eB894 eB899) (by first | with_reducible assumption | omega) (by first | with_reducible assumption | omega) (by first | with_reducible assumption | omega) (cu_0 (fr_2 eB894 eB899) (by first | with_reducible assumption | omega) zp903 (by first | with_reducible assumption | omega) (by first | with_reducible assumption | omega)) (Nat.lt_succ_self _)
