/-! SETTLING, THE VERDICTS -/
theorem ordF_srt {hr : Nat → Int} (n : Nat) : srt hr n (ordF hr n) := by
  have e := ord2_all (I := fun _ => 1) (hr := hr) n (fun _ _ => rfl)
  obtain ⟨a1, a2⟩ := ord2_ok (I := fun _ => 1) (hr := hr) n
  rw [e] at a1
  exact a1
theorem od_inj {H : mzH} {q p : Nat} (h : cvX H) (hp : p < (fZ H 3 9).toInt.toNat) (hq : q < p) : odX H q ≠ odX H p := by
  obtain ⟨_, _, h3⟩ := h
  unfold odX
  rw [h3 q (by omega), h3 p hp, Int.toNat_natCast, Int.toNat_natCast]
  intro e
  have z := ordF_srt (hr := fun i => (aZ H 6 i).toInt) (fZ H 3 9).toInt.toNat q p hq hp
  rw [e] at z
  exact kLt_irr z
/-- the book's rows are in order -/
def gdB (H : mzH) : Prop := (0 ≤ (fZ H 3 9).toInt ∧ (fZ H 3 9).toInt ≤ 60) ∧ ∀ j : Nat, j < (fZ H 3 9).toInt.toNat → rwO 8 (roX H) (fun k => (aZ H 6 k).toInt) j
/-- book and course are as they were -/
def kpW (H B : mzH) : Prop := ∀ c, ((3 ≤ c ∧ c ≤ 10) ∨ (25 ≤ c ∧ c ≤ 27)) → (∀ f, fZ B c f = fZ H c f) ∧ (∀ i, aZ B c i = aZ H c i)
theorem kpW_X {H B : mzH} (k : kpX H B) : kpW H B := fun c hc => k c (by omega)
theorem kpW_t {H A B : mzH} (k : kpW H A) (m : kpW A B) : kpW H B := fun c hc => ⟨fun f => ((m c hc).1 f).trans ((k c hc).1 f), fun i => ((m c hc).2 i).trans ((k c hc).2 i)⟩
theorem kpW_s {H B : mzH} (k : kpW H B) : kpW B H := fun c hc => ⟨fun f => ((k c hc).1 f).symm, fun i => ((k c hc).2 i).symm⟩
theorem kpW_42 {H B : mzH} {i : Nat} {v : Int32} (e : B = sA H 42 i v) : kpW H B := fun c hc => ⟨fun f => by rw [e, fZ_sA], fun i => by rw [e, aZ_sA_nc (by omega)]⟩
theorem wyX_kw {H A : mzH} (fr : kpW H A) : wyX A = wyX H := by
  funext a b
  unfold wyX
  rw [(fr 3 (by decide)).1, (fr 5 (by decide)).2]
theorem row_kw {H B : mzH} (k : kpW H B) : odX B = odX H ∧ hoX B = hoX H ∧ ∀ j, roX B j 1 = roX H j 1 ∧ roX B j 2 = roX H j 2 ∧ roX B j 3 = roX H j 3 ∧ roX B j 4 = roX H j 4 := by
  refine ⟨?_, ?_, fun j => ⟨?_, ?_, ?_, ?_⟩⟩
  · funext p; unfold odX; rw [(k 27 (by decide)).2]
  · funext p; unfold hoX; rw [(k 26 (by decide)).2]
  · show (aZ B 7 j).toInt = (aZ H 7 j).toInt; rw [(k 7 (by decide)).2]
  · show (aZ B 8 j).toInt = (aZ H 8 j).toInt; rw [(k 8 (by decide)).2]
  · show (aZ B 9 j).toInt = (aZ H 9 j).toInt; rw [(k 9 (by decide)).2]
  · show (aZ B 10 j).toInt = (aZ H 10 j).toInt; rw [(k 10 (by decide)).2]
theorem fX_kw {H B : mzH} (k : kpW H B) {p : Nat} : fX B p = fX H p := by
  obtain ⟨e1, e2, e3⟩ := row_kw k
  unfold fX
  rw [wyX_kw k, (k 3 (by decide)).1, (k 3 (by decide)).1]
  exact fC_cg p (fun q _ => by
    obtain ⟨r1, r2, r3, r4⟩ := e3 (odX B q)
    exact ⟨by rw [e1], r1, r2, r3, fun _ => r4, by rw [e2]⟩)
theorem vdX_kw {H B : mzH} (k : kpW H B) {p : Nat} : vdX B p = vdX H p := by
  obtain ⟨e1, e2, e3⟩ := row_kw k
  unfold vdX
  obtain ⟨r1, r2, r3, r4⟩ := e3 (odX H p)
  rw [fX_kw k, wyX_kw k, (k 3 (by decide)).1, (k 3 (by decide)).1, e1, e2, r1, r2, r3]
theorem wd_42 {H B : mzH} {s : pS} {i : Nat} {v : Int32} (h : wdX H 28 s) (e : B = sA H 42 i v) : wdX B 28 s := fun n hn => by
  obtain ⟨h1, h2, h3, h4, h5, h6, h7⟩ := h n hn
  have z : ∀ c, c ≠ 42 → ∀ n, aZ B c n = aZ H c n := fun c hc n => by rw [e, aZ_sA_nc (Ne.symm hc)]
  exact ⟨by rw [z _ (by decide)]; exact h1, by rw [z _ (by decide)]; exact h2, by rw [z _ (by decide)]; exact h3, by rw [z _ (by decide)]; exact h4, by rw [z _ (by decide)]; exact h5, by rw [z _ (by decide)]; exact h6, h7⟩
theorem wh_st {H B C : mzH} {p p2 : Nat} {k v : Int32} (hq : ∀ q : Nat, q < p → (aZ H 42 (odX H q)).toInt = vdX H q) (fr : kpX H B) (hI : gI SX B) (e : C = sA B 42 k.toInt.toNat v) (hk : k.toInt.toNat = odX H p) (hb : k.toInt.toNat < 60) (hv : v.toInt = vdX H p) (inj : ∀ q, q < p → odX H q ≠ odX H p) (e2 : p2 = p + 1) : ∀ q : Nat, q < p2 → (aZ C 42 (odX C q)).toInt = vdX C q := fun q h => by
  have kw := kpW_t (kpW_X fr) (kpW_42 e)
  rw [vdX_kw kw, (row_kw kw).1]
  if c : q = p then
    rw [c, ← hv, ← hk, e, aZ_sA_eq hI sx_42 hb]
  else
    have n := inj q (by omega)
    rw [e, aZ_sA_ne (by rw [hk]; exact Ne.symm n), (fr 42 (by decide)).2]
    exact hq q (by omega)
theorem gdY_b {H B : mzH} (h : gdB H) (k : kpB H B) (cv : cvX B) : gdY B := by
  obtain ⟨hn, hr⟩ := h
  obtain ⟨c1, c2, c3⟩ := cv
  have e9 : fZ B 3 9 = fZ H 3 9 := (k 3 (by decide)).1 9
  refine ⟨⟨by rw [c1, e9]; exact hn, by rw [c1], c2⟩, fun q hq => ?_, fun j hj => ?_⟩
  · rw [c1] at hq ⊢
    have z := c3 q hq
    show (aZ B 27 q).toInt.toNat < _
    rw [z, Int.toNat_natCast]
    exact ordF_lt _ hq
  · rw [c1, e9] at hj
    have z := hr j hj
    have a1 : roX B j 1 = roX H j 1 := by show (aZ B 7 j).toInt = (aZ H 7 j).toInt; rw [(k 7 (by decide)).2]
    have a2 : roX B j 2 = roX H j 2 := by show (aZ B 8 j).toInt = (aZ H 8 j).toInt; rw [(k 8 (by decide)).2]
    have a3 : roX B j 3 = roX H j 3 := by show (aZ B 9 j).toInt = (aZ H 9 j).toInt; rw [(k 9 (by decide)).2]
    have a4 : roX B j 4 = roX H j 4 := by show (aZ B 10 j).toInt = (aZ H 10 j).toInt; rw [(k 10 (by decide)).2]
    have a5 : hoX B j = (aZ H 6 j).toInt := by show (aZ B 26 j).toInt = _; rw [c2, (k 6 (by decide)).2]
    unfold rwO at z ⊢
    rw [a1, a2, a3, a4, a5]
    exact z
theorem gdB_Y {H B : mzH} (h : gdY B) (k : kpB H B) : gdB H := by
  obtain ⟨⟨h0, h1, h2⟩, _, hr⟩ := h
  have e9 : fZ B 3 9 = fZ H 3 9 := (k 3 (by decide)).1 9
  rw [e9] at h1
  refine ⟨by omega, fun j hj => ?_⟩
  have z := hr j (by omega)
  have a1 : roX B j 1 = roX H j 1 := by show (aZ B 7 j).toInt = (aZ H 7 j).toInt; rw [(k 7 (by decide)).2]
  have a2 : roX B j 2 = roX H j 2 := by show (aZ B 8 j).toInt = (aZ H 8 j).toInt; rw [(k 8 (by decide)).2]
  have a3 : roX B j 3 = roX H j 3 := by show (aZ B 9 j).toInt = (aZ H 9 j).toInt; rw [(k 9 (by decide)).2]
  have a4 : roX B j 4 = roX H j 4 := by show (aZ B 10 j).toInt = (aZ H 10 j).toInt; rw [(k 10 (by decide)).2]
  have a5 : hoX B j = (aZ H 6 j).toInt := by show (aZ B 26 j).toInt = _; rw [h2, (k 6 (by decide)).2]
  unfold rwO at z ⊢
  rw [a1, a2, a3, a4, a5] at z
  exact z
/-- the verdicts kept are those of the course -/
def whE (H : mzH) : Prop := ∀ q, q < (fZ H 25 2).toInt.toNat → (aZ H 42 (odX H q)).toInt = vdX H q
def cvW (H : mzH) : Prop := cvX H ∧ (gdY H → whE H)
theorem gdY_kw {H A : mzH} (fr : kpW H A) (h : gdY H) : gdY A := by
  obtain ⟨⟨h0, h00, h01⟩, h1, h2⟩ := h
  obtain ⟨e1, e2, e3⟩ := row_kw fr
  refine ⟨⟨by rw [(fr 25 (by decide)).1]; exact h0, by rw [(fr 25 (by decide)).1, (fr 3 (by decide)).1]; exact h00, fun i => by rw [(fr 26 (by decide)).2, (fr 6 (by decide)).2]; exact h01 i⟩, fun q hq => ?_, fun j hj => ?_⟩
  · rw [(fr 25 (by decide)).1] at hq ⊢
    rw [e1]
    exact h1 q hq
  · rw [(fr 25 (by decide)).1] at hj
    have z := h2 j hj
    obtain ⟨a1, a2, a3, a4⟩ := e3 j
    unfold rwO at z ⊢
    rw [a1, a2, a3, a4, e2]
    exact z
theorem whE_kw {H B : mzH} (k : kpW H B) (k2 : ∀ i, aZ B 42 i = aZ H 42 i) (h : whE H) : whE B := fun q hq => by
  rw [(k 25 (by decide)).1] at hq
  rw [vdX_kw k, (row_kw k).1, k2]
  exact h q hq
theorem cvX_kw {H B : mzH} (k : kpW H B) (h : cvX H) : cvX B := by
  obtain ⟨h1, h2, h3⟩ := h
  refine ⟨?_, fun i => ?_, ?_⟩
  · rw [(k 25 (by decide)).1, (k 3 (by decide)).1]; exact h1
  · rw [(k 26 (by decide)).2, (k 6 (by decide)).2]; exact h2 i
  · rw [(k 3 (by decide)).1]
    intro q hq
    rw [(k 27 (by decide)).2, show (fun i => (aZ B 6 i).toInt) = (fun i => (aZ H 6 i).toInt) from funext fun i => by rw [(k 6 (by decide)).2]]
    exact h3 q hq
theorem cvW_kw {H B : mzH} (k : kpW H B) (k2 : ∀ i, aZ B 42 i = aZ H 42 i) (h : cvW H) : cvW B := ⟨cvX_kw k h.1, fun g => whE_kw k k2 (h.2 (gdY_kw (kpW_s k) g))⟩
theorem cvW_kp {H B : mzH} (k : kpX H B) (h : cvW H) : cvW B := cvW_kw (kpW_X k) (k 42 (by decide)).2 h
set_option maxRecDepth 4000 in
set_option maxHeartbeats 4000000 in
/-- X5.settle -/
theorem yg_52  (H : mzH) (hI : gI SX H) (hJ : JX H) (hp0 : gdB H) : gCall 52 [.ref 24] H (gRv (fun H' => gI SX H' ∧ JX H' ∧ fZ H' 1 1 = fZ H 1 1 ∧ kpB H H' ∧ cvX H' ∧ whE H')) := by
  obtain ⟨k1_1, ek1_1⟩ : ∃ z, z = fZ H 1 1 := ⟨_, rfl⟩
  have ik1_1 : k1_1.toInt = (fZ H 1 1).toInt := by rw [← ek1_1]
  have bk1_1 : 0 ≤ k1_1.toInt ∧ k1_1.toInt ≤ 900 := by rw [ek1_1]; exact fZ_of hI sx_1 rfl
  have mkfr : kpB H H := kpB_r
  refine gG_call [(0, .ref 24)] ⟨rfl, trivial⟩ ?_
  show gG 2 zB_52 (mzBlk zB_52 0) [(0, .ref 24)] [] H 0 0 _
  refine g_aload_n rfl ?_
  refine g_gfr hI sx_24 rfl ?_
  refine g_aload_n rfl ?_
  refine g_gfr hI sx_24 rfl ?_
  refine g_invvv hI sx_25 rfl rfl rfl rfl (y_24 H hI hJ) (fun H333 r334 => ?_)
  obtain ⟨hIH333, hJH333, w335, m336, p337, p338⟩ := r334
  have e339 : k1_1 = fZ H333 1 1 := ek1_1.trans w335.symm
  have m340 : kpB H H333 := kpB_t mkfr (kpB_N (c := 25) (by decide) m336)
  refine g_aload_n rfl ?_
  refine g_gfr hIH333 sx_24 rfl ?_
  refine g_invvv hIH333 sx_25 rfl rfl rfl rfl (y_25 H333 hIH333 hJH333) (fun H341 r342 => ?_)
  obtain ⟨hIH341, hJH341, w343, w344, m345, m346, p347, p348, p349⟩ := r342
  have e350 : k1_1 = fZ H341 1 1 := e339.trans w343.symm
  have m351 : kpB H H341 := kpB_t m340 (kpB_N (c := 25) (by decide) m345)
  refine g_aload_n rfl ?_
  refine g_gfr hIH341 sx_24 rfl ?_
  refine g_invvv hIH341 sx_28 rfl rfl rfl rfl (w_83 28 zWo_28 H341 hIH341 hJH341) (fun H352 r353 => ?_)
  obtain ⟨hIH352, hJH352, w354, m355, p356⟩ := r353
  have e357 : k1_1 = fZ H352 1 1 := e350.trans w354.symm
  have m358 : kpB H H352 := kpB_t m351 (kpB_X (kpX_W (by decide) m355))
  refine g_iconst (by decide) (fun v359 kv359 => ?_)
  refine g_istore_n (l' := [(0, .ref 24), (1, .int v359)]) rfl rfl ?_
  refine g_nop ?_
  have L364 : ∀ (N : Nat) (v360 : Int32) (H361 : mzH), gI SX H361 → JX H361 → k1_1 = fZ H361 1 1 → kpB H H361 → (0 ≤ v360.toInt ∧ v360.toInt ≤ 60) → v360.toInt ≤ (fZ H361 25 2).toInt → cvX H361 → wdX H361 28 (fX H361 v360.toInt.toNat) → (∀ q : Nat, q < v360.toInt.toNat → (aZ H361 42 (odX H361 q)).toInt = vdX H361 q) → (60 - v360.toInt).toNat < N → gG 2 zB_52 (mzBlk zB_52 1) [(0, .ref 24), (1, .int v360)] [] H361 0 0 (gRv (fun H' => gI SX H' ∧ JX H' ∧ fZ H' 1 1 = fZ H 1 1 ∧ kpB H H' ∧ cvX H' ∧ whE H')) := by
    intro N
    induction N with
    | zero => intro v360 H361 hIH361 hJH361 e362 m363 bv360 q0 q1 q2 q3 hmL364; exact absurd hmL364 (Nat.not_lt_zero _)
    | succ N ihL364 =>
      intro v360 H361 hIH361 hJH361 e362 m363 bv360 q0 q1 q2 q3 hmL364
      have gx365 := gdY_x (gdY_b hp0 m363 q1)
      have gngx365 := (gdY_b hp0 m363 q1).1.1
      refine g_iload_n rfl ?_
      refine g_aload_n rfl ?_
      refine g_gfr hIH361 sx_24 rfl ?_
      refine g_gfi hIH361 sx_25 rfl (fun v366 ev366 lv366 uv366 => ?_)
      have zv366 : v366.toInt = (fZ H361 25 2).toInt := by rw [ev366]
      refine g_if2_ge (fun c367 => ?_) (fun c367 => ?_)
      · exact g_ret ⟨rfl, hIH361, hJH361, (e362.symm.trans ek1_1), m363, q1, (fun q hq => q3 q (by omega))⟩
      · refine g_aload_n rfl ?_
        refine g_gfr hIH361 sx_24 rfl ?_
        refine g_aload_n rfl ?_
        refine g_gfr hIH361 sx_24 rfl ?_
        refine g_gfr hIH361 sx_25 rfl ?_
        refine g_iload_n rfl ?_
        refine g_iaload hIH361 sx_27 rfl (by omega) (fun v368 ev368 lv368 uv368 => ?_)
        have zkv368 : v368.toInt.toNat = odX H361 v360.toInt.toNat := by rw [ev368]; rfl
        refine g_aload_n rfl ?_
        refine g_iload_n rfl ?_
        refine g_invvi hIH361 sx_24 rfl rfl rfl rfl (w_53 v360 (by omega) H361 hIH361 hJH361 q2 (gx365.2 v360.toInt.toNat (by omega)).1 (gx365.2 v360.toInt.toNat (by omega)).2 (gx365.1 v360.toInt.toNat (by omega)).1 (gx365.1 v360.toInt.toNat (by omega)).2) (fun v371 H369 r370 => ?_)
        obtain ⟨hIH369, hJH369, w372, m373, p374, p375⟩ := r370
        have e376 : k1_1 = fZ H369 1 1 := e362.trans w372.symm
        have m377 : kpB H H369 := kpB_t m363 (kpB_X m373)
        have wzv360 : wdX H369 28 (fX H361 (v360.toInt.toNat + 1)) := gx_s2 kpX_r p374 rfl
        have vdv360 := gv_s2 (p := v360.toInt.toNat) kpX_r p375
        refine g_iastore hIH369 sx_42 (by omega) (gz_any _) (fun H378 eH378 hIH378 => ?_)
        have hJH378 : JX H378 := JX_sA (by omega) eH378 hJH369
        have e379 : k1_1 = fZ H378 1 1 := by rw [eH378, fZ_sA]; exact e376
        have m380 : kpB H H378 := kpB_A m377 eH378 (by omega)
        refine g_iinc (l' := (fun v381 => [(0, .ref 24), (1, .int v381)])) rfl rfl (by decide) (by omega) (fun _ => rfl) (fun v381 ev381 => ?_)
        refine g_goto ?_
        exact ihL364 v381 H378 hIH378 hJH378 e379 m380 (by omega) (by rw [((kpW_t (kpW_X m373) (kpW_42 eH378)) 25 (by decide)).1]; omega) (cvX_w (cvX_kp m373 q1) eH378) (by rw [show v381.toInt.toNat = v360.toInt.toNat + 1 by omega, fX_kw (kpW_t (kpW_X m373) (kpW_42 eH378))]; exact wd_42 wzv360 eH378) (wh_st q3 m373 hIH369 eH378 zkv368 (by omega) vdv360 (fun q hq => od_inj q1 (by rw [← q1.1]; omega) hq) (by omega)) (by omega)
  exact L364 _ v359 H352 hIH352 hJH352 e357 m358 (by omega) (by have := fZ_of hIH352 sx_25 (f := 2) rfl; omega) (cv_0 m336 p337 p338 m345 p348 p349 p347 (kpX_W (by decide) m355)) (by rw [kv359]; exact p356) (fun q hq => by omega) (Nat.lt_succ_self _)
/-- settle, exactly, whatever the book -/
theorem yw_52 (H : mzH) (hI : gI SX H) (hJ : JX H) : gCall 52 [.ref 24] H (gRv (fun H' => gI SX H' ∧ JX H' ∧ fZ H' 1 1 = fZ H 1 1 ∧ kpB H H' ∧ cvW H')) := by
  by_cases g : gdB H
  · refine gGo_mono (yg_52 H hI hJ g) ?_
    rintro q B ⟨h0, h1, h2, h3, h4, h5, h6⟩
    exact ⟨h0, h1, h2, h3, h4, h5, fun _ => h6⟩
  · refine gGo_mono (y_52 H hI hJ) ?_
    rintro q B ⟨h0, h1, h2, h3, h4, h5⟩
    exact ⟨h0, h1, h2, h3, h4, h5, fun y => absurd (gdB_Y y h4) g⟩
