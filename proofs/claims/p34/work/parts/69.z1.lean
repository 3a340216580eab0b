/-! THE ORDER OF MESSAGES -/
def posF (hr : Nat → Int) (t : Nat → Nat) (k : Nat) : Nat → Nat
  | 0 => 0
  | sp + 1 => if hr k < hr (t sp) then posF hr t k sp else sp + 1
/-- k put into t, of n, at sp -/
def isr (t : Nat → Nat) (k n sp : Nat) : Nat → Nat := fun q => if q < sp then t q else if q = sp then k else if q ≤ n then t (q - 1) else t q
def ordF (hr : Nat → Int) : Nat → Nat → Nat
  | 0 => fun _ => 0
  | k + 1 => isr (ordF hr k) k k (posF hr (ordF hr k) k k)
/-- while a spot is sought -/
def inO (hr : Nat → Int) (t : Nat → Nat) (k n sp : Nat) (f : Nat → Int) : Prop := sp ≤ n ∧ (∀ q, q < sp → f q = (t q : Int)) ∧ (∀ q, sp < q → q ≤ n → f q = (t (q - 1) : Int)) ∧ posF hr t k sp = posF hr t k n
theorem in_00 {hr : Nat → Int} {t : Nat → Nat} {k n : Nat} {f : Nat → Int} (h : ∀ q, q < n → f q = (t q : Int)) : inO hr t k n n f := ⟨Nat.le_refl _, h, fun q h1 h2 => by omega, rfl⟩
theorem in_sp {S : List gSp} {H B : mzH} {cl k n N : Nat} {lo hi : Int} {hr : Nat → Int} {t : Nat → Nat} {i i2 v : Int32} (hI : gI S H) (hs : S[cl]? = some (.inl (0, N, lo, hi))) (q : inO hr t k n i.toInt.toNat (fun q => (aZ H cl q).toInt)) (e : B = sA H cl i.toInt.toNat v) (hN : i.toInt.toNat < N) (h0 : 0 < i.toInt) (ev : v.toInt = (aZ H cl (i.toInt.toNat - 1)).toInt) (hl : hr k < hr (t (i.toInt.toNat - 1))) (ei : i2.toInt = i.toInt - 1) : inO hr t k n i2.toInt.toNat (fun q => (aZ B cl q).toInt) := by
  obtain ⟨q1, q2, q3, q4⟩ := q
  have e2 : i2.toInt.toNat = i.toInt.toNat - 1 := by omega
  rw [e2]
  refine ⟨by omega, fun x hx => ?_, fun x h1 h2 => ?_, ?_⟩
  · show (aZ B cl x).toInt = _
    rw [e, aZ_sA_ne (by omega)]
    exact q2 x (by omega)
  · show (aZ B cl x).toInt = _
    if c : x = i.toInt.toNat then
      subst c
      rw [e, aZ_sA_eq hI hs hN, ev]
      exact q2 (i.toInt.toNat - 1) (by omega)
    else
      rw [e, aZ_sA_ne (by omega)]
      exact q3 x (by omega) h2
  · rw [← q4]
    obtain ⟨z, hz⟩ : ∃ z, i.toInt.toNat = z + 1 := ⟨i.toInt.toNat - 1, by omega⟩
    rw [hz] at hl ⊢
    show posF hr t k z = if hr k < hr (t z) then posF hr t k z else z + 1
    exact (if_pos (show hr k < hr (t z) from hl)).symm
theorem in_en {S : List gSp} {H B : mzH} {cl k n N : Nat} {lo hi : Int} {hr : Nat → Int} {t : Nat → Nat} {i v : Int32} (hI : gI S H) (hs : S[cl]? = some (.inl (0, N, lo, hi))) (q : inO hr t k n i.toInt.toNat (fun q => (aZ H cl q).toInt)) (e : B = sA H cl i.toInt.toNat v) (hN : i.toInt.toNat < N) (ev : v.toInt = (k : Int)) (hl : i.toInt.toNat = 0 ∨ ¬ hr k < hr (t (i.toInt.toNat - 1))) : ∀ x, x < n + 1 → (aZ B cl x).toInt = (isr t k n (posF hr t k n) x : Int) := fun x hx => by
  obtain ⟨q1, q2, q3, q4⟩ := q
  have e4 : posF hr t k n = i.toInt.toNat := by
    rw [← q4]
    generalize i.toInt.toNat = z at hl
    match z, hl with
    | 0, _ => rfl
    | z + 1, hl =>
      show (if hr k < hr (t z) then posF hr t k z else z + 1) = z + 1
      exact if_neg (show ¬ hr k < hr (t z) from hl.resolve_left (by omega))
  rw [e4]
  unfold isr
  if c : x < i.toInt.toNat then
    rw [if_pos c, e, aZ_sA_ne (by omega)]
    exact q2 x c
  else
    rw [if_neg c]
    if d : x = i.toInt.toNat then
      subst d
      rw [if_pos rfl, e, aZ_sA_eq hI hs hN, ev]
    else
      rw [if_neg d, if_pos (by omega), e, aZ_sA_ne (by omega)]
      exact q3 x (by omega) (by omega)
theorem posF_le {hr : Nat → Int} {t : Nat → Nat} {k : Nat} : ∀ n, posF hr t k n ≤ n
  | 0 => Nat.le_refl _
  | n + 1 => by
    have := posF_le (hr := hr) (t := t) (k := k) n
    unfold posF
    split <;> omega
theorem ordF_lt {hr : Nat → Int} : ∀ (n : Nat) {q : Nat}, q < n → ordF hr n q < n
  | 0, q, h => by omega
  | n + 1, q, h => by
    have a := posF_le (hr := hr) (t := ordF hr n) (k := n) n
    have b := ordF_lt (hr := hr) n (q := q)
    have c := ordF_lt (hr := hr) n (q := q - 1)
    show isr (ordF hr n) n n (posF hr (ordF hr n) n n) q < n + 1
    unfold isr
    split
    · have := b (by omega); omega
    · split
      · omega
      · rw [if_pos (by omega)]
        have := c (by omega); omega
/-- only the hours of those put in count -/
theorem posF_cg {hr hs : Nat → Int} {t : Nat → Nat} {k : Nat} (hk : hr k = hs k) : ∀ n, (∀ q, q < n → hr (t q) = hs (t q)) → posF hr t k n = posF hs t k n
  | 0, _ => rfl
  | n + 1, h => by
    unfold posF
    rw [hk, h n (by omega), posF_cg hk n (fun q hq => h q (by omega))]
theorem ordF_cg {hr hs : Nat → Int} : ∀ n, (∀ q, q < n → hr q = hs q) → ordF hr n = ordF hs n
  | 0, _ => rfl
  | n + 1, h => by
    unfold ordF
    rw [ordF_cg n (fun q hq => h q (by omega)), posF_cg (h n (by omega)) n (fun q hq => h _ (by have := ordF_lt (hr := hs) n hq; omega))]
/-- the class's course is that of its book -/
def cvX (H : mzH) : Prop := fZ H 25 2 = fZ H 3 9 ∧ (∀ i, aZ H 26 i = aZ H 6 i) ∧ (∀ q, q < (fZ H 3 9).toInt.toNat → (aZ H 27 q).toInt = (ordF (fun i => (aZ H 6 i).toInt) (fZ H 3 9).toInt.toNat q : Int))
theorem oru_t {G : mzH} {hr : Nat → Int} {t : Nat → Nat} {k n : Nat} {sp j v : Int32} (q : inO hr t k n sp.toInt.toNat (fun q => (aZ G 27 q).toInt)) (y : v.toInt = (aZ G 27 j.toInt.toNat).toInt) (ej : j.toInt = sp.toInt - 1) (h0 : 0 < sp.toInt) : t (sp.toInt.toNat - 1) = v.toInt.toNat := by
  have := q.2.1 (sp.toInt.toNat - 1) (by omega)
  have e : j.toInt.toNat = sp.toInt.toNat - 1 := by omega
  rw [e] at y
  have : v.toInt = (t (sp.toInt.toNat - 1) : Int) := y.trans this
  omega
theorem cvX_kp {H B : mzH} (k : kpX H B) (h : cvX H) : cvX B := by
  obtain ⟨h1, h2, h3⟩ := h
  refine ⟨?_, fun i => ?_, ?_⟩
  · rw [(k 25 (by decide)).1, (k 3 (by decide)).1]; exact h1
  · rw [(k 26 (by decide)).2, (k 6 (by decide)).2]; exact h2 i
  · rw [(k 3 (by decide)).1]
    intro q hq
    rw [(k 27 (by decide)).2, show (fun i => (aZ B 6 i).toInt) = (fun i => (aZ H 6 i).toInt) from funext fun i => by rw [(k 6 (by decide)).2]]
    exact h3 q hq
theorem cvX_w {H B : mzH} {i : Nat} {v : Int32} (h : cvX H) (e : B = sA H 42 i v) : cvX B := by
  obtain ⟨h1, h2, h3⟩ := h
  refine ⟨?_, fun i => ?_, ?_⟩
  · rw [e, fZ_sA, fZ_sA]; exact h1
  · rw [e, aZ_sA_nc (by decide), aZ_sA_nc (by decide)]; exact h2 i
  · rw [e, fZ_sA]
    intro q hq
    rw [aZ_sA_nc (by decide), show (fun i_1 => (aZ (sA H 42 i v) 6 i_1).toInt) = (fun i => (aZ H 6 i).toInt) from funext fun i => by rw [aZ_sA_nc (by decide)]]
    exact h3 q hq
theorem cv_0 {H H1 H2 H3 : mzH} (k1 : kpN 25 27 H H1) (a : fZ H1 25 2 = fZ H 3 9) (b : ∀ i, aZ H1 26 i = aZ H 6 i) (k2 : kpN 25 27 H1 H2) (c : fZ H2 25 2 = fZ H1 25 2) (d : ∀ i, aZ H2 26 i = aZ H1 26 i) (e : ∀ q, q < (fZ H1 25 2).toInt.toNat → (aZ H2 27 q).toInt = (ordF (fun i => (aZ H1 26 i).toInt) (fZ H1 25 2).toInt.toNat q : Int)) (k3 : kpX H2 H3) : cvX H3 := by
  refine cvX_kp k3 ⟨?_, fun i => ?_, ?_⟩
  · rw [c, a, (k2 3 (by decide)).1, (k1 3 (by decide)).1]
  · rw [d, b, (k2 6 (by decide)).2, (k1 6 (by decide)).2]
  · rw [(k2 3 (by decide)).1, (k1 3 (by decide)).1, ← a, show (fun i => (aZ H2 6 i).toInt) = (fun i => (aZ H1 26 i).toInt) from funext fun i => by rw [b, (k2 6 (by decide)).2, (k1 6 (by decide)).2]]
    exact e
theorem or_nx {hr : Nat → Int} {k k2 : Nat} {f : Nat → Int} (h : k2 = k + 1) (g : ∀ x, x < k + 1 → f x = (isr (ordF hr k) k k (posF hr (ordF hr k) k k) x : Int)) : ∀ q, q < k2 → f q = (ordF hr k2 q : Int) := by
  subst h
  exact g
set_option maxRecDepth 4000 in
set_option maxHeartbeats 4000000 in
/-- X2.takeHours -/
theorem y_24 (H : mzH) (hI : gI SX H) (hJ : JX H) : gCall 24 [.ref 25, .ref 3] H (gRv (fun H' => gI SX H' ∧ JX H' ∧ fZ H' 1 1 = fZ H 1 1 ∧ kpN 25 27 H H' ∧ fZ H' 25 2 = fZ H 3 9 ∧ (∀ i, aZ H' 26 i = aZ H 6 i))) := by
  obtain ⟨k1_1, ek1_1⟩ : ∃ z, z = fZ H 1 1 := ⟨_, rfl⟩
  have ik1_1 : k1_1.toInt = (fZ H 1 1).toInt := by rw [← ek1_1]
  have bk1_1 : 0 ≤ k1_1.toInt ∧ k1_1.toInt ≤ 900 := by rw [ek1_1]; exact fZ_of hI sx_1 rfl
  have mkfr : kpN 25 27 H H := kpN_r
  refine gG_call [(0, .ref 25), (1, .ref 3)] ⟨rfl, rfl, trivial⟩ ?_
  show gG 2 zB_24 (mzBlk zB_24 0) [(0, .ref 25), (1, .ref 3)] [] H 0 0 _
  refine g_aload_n rfl ?_
  refine g_aload_n rfl ?_
  refine g_gfi hI sx_3 rfl (fun v41 ev41 lv41 uv41 => ?_)
  refine g_pfi hI sx_25 rfl (by omega) (fun H42 eH42 hIH42 => ?_)
  have hJH42 : JX H42 := JX_sF eH42 hJ
  have e43 : k1_1 = fZ H42 1 1 := by rw [eH42, fZ_sF_nc (by omega)]; exact ek1_1
  have m44 : kpN 25 27 H H42 := kpN_F mkfr eH42 (by omega)
  refine g_aload_n rfl ?_
  refine g_gfr hIH42 sx_3 rfl ?_
  refine g_iconst (by decide) (fun v45 kv45 => ?_)
  refine g_aload_n rfl ?_
  refine g_gfr hIH42 sx_25 rfl ?_
  refine g_iconst (by decide) (fun v46 kv46 => ?_)
  refine g_bipush (by decide) (fun v47 kv47 => ?_)
  refine g_acp hIH42 sx_26 sx_6 (by decide) (by decide) (by omega) (by omega) (by omega) rfl (fun H48 eH48 hIH48 => ?_)
  have hJH48 : JX H48 := JX_sC (by omega) eH48 hJH42
  have e49 : k1_1 = fZ H48 1 1 := by rw [eH48, fZ_sC hIH42 sx_26 sx_6]; exact e43
  have m50 : kpN 25 27 H H48 := kpN_C hIH42 sx_26 sx_6 m44 eH48 (by omega)
  exact g_ret ⟨rfl, hIH48, hJH48, (e49.symm.trans ek1_1), m50, (by rw [eH48, fZ_sC hIH42 sx_26 sx_6, eH42, fZ_sF_eq hI sx_25 rfl]; exact ev41), (fun i => by rw [eH48, aZ_sC_eq hIH42 sx_26 sx_6, eH42, aZ_sF])⟩
set_option maxRecDepth 4000 in
set_option maxHeartbeats 4000000 in
/-- X2.arrange -/
theorem y_25 (H : mzH) (hI : gI SX H) (hJ : JX H) : gCall 25 [.ref 25] H (gRv (fun H' => gI SX H' ∧ JX H' ∧ fZ H' 1 1 = fZ H 1 1 ∧ fZ H' 25 2 = fZ H 25 2 ∧ kpN 25 27 H H' ∧ (∀ i, aZ H' 26 i = aZ H 26 i) ∧ (∀ q, q < (fZ H 25 2).toInt.toNat → (aZ H' 27 q).toInt = (ordF (fun i => (aZ H 26 i).toInt) (fZ H 25 2).toInt.toNat q : Int)) ∧ fZ H' 25 2 = fZ H 25 2 ∧ (∀ i, aZ H' 26 i = aZ H 26 i))) := by
  obtain ⟨k1_1, ek1_1⟩ : ∃ z, z = fZ H 1 1 := ⟨_, rfl⟩
  have ik1_1 : k1_1.toInt = (fZ H 1 1).toInt := by rw [← ek1_1]
  have bk1_1 : 0 ≤ k1_1.toInt ∧ k1_1.toInt ≤ 900 := by rw [ek1_1]; exact fZ_of hI sx_1 rfl
  obtain ⟨k25_2, ek25_2⟩ : ∃ z, z = fZ H 25 2 := ⟨_, rfl⟩
  have ik25_2 : k25_2.toInt = (fZ H 25 2).toInt := by rw [← ek25_2]
  have bk25_2 : 0 ≤ k25_2.toInt ∧ k25_2.toInt ≤ 60 := by rw [ek25_2]; exact fZ_of hI sx_25 rfl
  have mkfr : kpN 25 27 H H := kpN_r
  have mk26 : ∀ i, aZ H 26 i = aZ H 26 i := fun _ => rfl
  refine gG_call [(0, .ref 25)] ⟨rfl, trivial⟩ ?_
  show gG 3 zB_25 (mzBlk zB_25 0) [(0, .ref 25)] [] H 0 0 _
  refine g_iconst (by decide) (fun v379 kv379 => ?_)
  refine g_istore_n (l' := [(0, .ref 25), (1, .int v379)]) rfl rfl ?_
  refine g_nop ?_
  have L386 : ∀ (N : Nat) (v380 : Int32) (H381 : mzH), gI SX H381 → JX H381 → k1_1 = fZ H381 1 1 → k25_2 = fZ H381 25 2 → kpN 25 27 H H381 → (∀ i, aZ H381 26 i = aZ H 26 i) → (0 ≤ v380.toInt ∧ v380.toInt ≤ 60) → v380.toInt ≤ (fZ H 25 2).toInt → (∀ q : Nat, q < v380.toInt.toNat → (aZ H381 27 q).toInt = (ordF (fun i => (aZ H 26 i).toInt) v380.toInt.toNat q : Int)) → (60 - v380.toInt).toNat < N → gG 3 zB_25 (mzBlk zB_25 1) [(0, .ref 25), (1, .int v380)] [] H381 0 0 (gRv (fun H' => gI SX H' ∧ JX H' ∧ fZ H' 1 1 = fZ H 1 1 ∧ fZ H' 25 2 = fZ H 25 2 ∧ kpN 25 27 H H' ∧ (∀ i, aZ H' 26 i = aZ H 26 i) ∧ (∀ q, q < (fZ H 25 2).toInt.toNat → (aZ H' 27 q).toInt = (ordF (fun i => (aZ H 26 i).toInt) (fZ H 25 2).toInt.toNat q : Int)) ∧ fZ H' 25 2 = fZ H 25 2 ∧ (∀ i, aZ H' 26 i = aZ H 26 i))) := by
    intro N
    induction N with
    | zero => intro v380 H381 hIH381 hJH381 e382 e383 m384 m385 bv380 q0 q1 hmL386; exact absurd hmL386 (Nat.not_lt_zero _)
    | succ N ihL386 =>
      intro v380 H381 hIH381 hJH381 e382 e383 m384 m385 bv380 q0 q1 hmL386
      refine g_iload_n rfl ?_
      refine g_aload_n rfl ?_
      refine g_gfk hIH381 sx_25 rfl e383 ?_
      refine g_if2_ge (fun c387 => ?_) (fun c387 => ?_)
      · exact g_ret ⟨rfl, hIH381, hJH381, (e382.symm.trans ek1_1), (e383.symm.trans ek25_2), m384, m385, (fun q hq => by have z := q1 q (by omega); rw [z]; rw [show v380.toInt.toNat = (fZ H 25 2).toInt.toNat by omega]), (e383.symm.trans ek25_2), m385⟩
      · refine g_iload_n rfl ?_
        refine g_istore_n (l' := [(0, .ref 25), (1, .int v380), (2, .int v380)]) rfl rfl ?_
        refine g_nop ?_
        have L394 : ∀ (N : Nat) (v388 : Int32) (H389 : mzH), gI SX H389 → JX H389 → k1_1 = fZ H389 1 1 → k25_2 = fZ H389 25 2 → kpN 25 27 H H389 → (∀ i, aZ H389 26 i = aZ H 26 i) → (0 ≤ v388.toInt ∧ v388.toInt ≤ 59) → inO (fun i => (aZ H 26 i).toInt) (ordF (fun i => (aZ H 26 i).toInt) v380.toInt.toNat) v380.toInt.toNat v380.toInt.toNat v388.toInt.toNat (fun q => (aZ H389 27 q).toInt) → (v388.toInt - (0)).toNat < N → gG 3 zB_25 (mzBlk zB_25 2) [(0, .ref 25), (1, .int v380), (2, .int v388)] [] H389 0 0 (gRv (fun H' => gI SX H' ∧ JX H' ∧ fZ H' 1 1 = fZ H 1 1 ∧ fZ H' 25 2 = fZ H 25 2 ∧ kpN 25 27 H H' ∧ (∀ i, aZ H' 26 i = aZ H 26 i) ∧ (∀ q, q < (fZ H 25 2).toInt.toNat → (aZ H' 27 q).toInt = (ordF (fun i => (aZ H 26 i).toInt) (fZ H 25 2).toInt.toNat q : Int)) ∧ fZ H' 25 2 = fZ H 25 2 ∧ (∀ i, aZ H' 26 i = aZ H 26 i))) := by
          intro N
          induction N with
          | zero => intro v388 H389 hIH389 hJH389 e390 e391 m392 m393 bv388 q2 hmL394; exact absurd hmL394 (Nat.not_lt_zero _)
          | succ N ihL394 =>
            intro v388 H389 hIH389 hJH389 e390 e391 m392 m393 bv388 q2 hmL394
            refine g_iload_n rfl ?_
            refine g_if_le (fun c395 => ?_) (fun c395 => ?_)
            · refine g_aload_n rfl ?_
              refine g_gfr hIH389 sx_25 rfl ?_
              refine g_iload_n rfl ?_
              refine g_iload_n rfl ?_
              refine g_iastore hIH389 sx_27 (by omega) (by omega) (fun H396 eH396 hIH396 => ?_)
              have hJH396 : JX H396 := JX_sA (by omega) eH396 hJH389
              have e397 : k1_1 = fZ H396 1 1 := by rw [eH396, fZ_sA]; exact e390
              have e398 : k25_2 = fZ H396 25 2 := by rw [eH396, fZ_sA]; exact e391
              have m399 : kpN 25 27 H H396 := kpN_A m392 eH396 (by omega)
              have m400 : ∀ i, aZ H396 26 i = aZ H 26 i := fun i => (by rw [eH396, aZ_sA_nc (by omega)] : aZ H396 26 i = aZ H389 26 i).trans (m393 i)
              have ie398 : k25_2.toInt = (fZ H396 25 2).toInt := by rw [← e398]
              refine g_iinc (l' := (fun v401 => [(0, .ref 25), (1, .int v401), (2, .int v388)])) rfl rfl (by decide) (by omega) (fun _ => rfl) (fun v401 ev401 => ?_)
              refine g_goto ?_
              refine gG_pick [0, 1] (l' := [(0, .ref 25), (1, .int v401)]) rfl ?_
              exact ihL386 v401 H396 hIH396 hJH396 e397 e398 m399 m400 (by omega) (by omega) (or_nx (by omega) (in_en hIH389 sx_27 q2 eH396 (by omega) (by omega) (Or.inl (by omega)))) (by omega)
            · refine g_aload_n rfl ?_
              refine g_gfr hIH389 sx_25 rfl ?_
              refine g_aload_n rfl ?_
              refine g_gfr hIH389 sx_25 rfl ?_
              refine g_iload_n rfl ?_
              refine g_iconst (by decide) (fun v402 kv402 => ?_)
              refine g_isub (by omega) (fun v403 ev403 => ?_)
              refine g_iaload hIH389 sx_27 rfl (by omega) (fun v404 ev404 lv404 uv404 => ?_)
              have yv404 : v404.toInt = (aZ H389 27 v403.toInt.toNat).toInt := by rw [ev404]
              refine g_iaload hIH389 sx_26 rfl (by omega) (fun v405 ev405 lv405 uv405 => ?_)
              have yv405 : v405.toInt = (aZ H 26 v404.toInt.toNat).toInt := by rw [ev405, m393]
              refine g_aload_n rfl ?_
              refine g_gfr hIH389 sx_25 rfl ?_
              refine g_iload_n rfl ?_
              refine g_iaload hIH389 sx_26 rfl (by omega) (fun v406 ev406 lv406 uv406 => ?_)
              have yv406 : v406.toInt = (aZ H 26 v380.toInt.toNat).toInt := by rw [ev406, m393]
              refine g_if2_le (fun c407 => ?_) (fun c407 => ?_)
              · refine g_aload_n rfl ?_
                refine g_gfr hIH389 sx_25 rfl ?_
                refine g_iload_n rfl ?_
                refine g_iload_n rfl ?_
                refine g_iastore hIH389 sx_27 (by omega) (by omega) (fun H408 eH408 hIH408 => ?_)
                have hJH408 : JX H408 := JX_sA (by omega) eH408 hJH389
                have e409 : k1_1 = fZ H408 1 1 := by rw [eH408, fZ_sA]; exact e390
                have e410 : k25_2 = fZ H408 25 2 := by rw [eH408, fZ_sA]; exact e391
                have m411 : kpN 25 27 H H408 := kpN_A m392 eH408 (by omega)
                have m412 : ∀ i, aZ H408 26 i = aZ H 26 i := fun i => (by rw [eH408, aZ_sA_nc (by omega)] : aZ H408 26 i = aZ H389 26 i).trans (m393 i)
                have ie410 : k25_2.toInt = (fZ H408 25 2).toInt := by rw [← e410]
                refine g_iinc (l' := (fun v413 => [(0, .ref 25), (1, .int v413), (2, .int v388)])) rfl rfl (by decide) (by omega) (fun _ => rfl) (fun v413 ev413 => ?_)
                refine g_goto ?_
                refine gG_pick [0, 1] (l' := [(0, .ref 25), (1, .int v413)]) rfl ?_
                exact ihL386 v413 H408 hIH408 hJH408 e409 e410 m411 m412 (by omega) (by omega) (or_nx (by omega) (in_en hIH389 sx_27 q2 eH408 (by omega) (by omega) (Or.inr (by rw [oru_t q2 yv404 (by omega) (by omega)]; show ¬ (aZ H 26 v380.toInt.toNat).toInt < (aZ H 26 v404.toInt.toNat).toInt; omega)))) (by omega)
              · refine g_aload_n rfl ?_
                refine g_gfr hIH389 sx_25 rfl ?_
                refine g_iload_n rfl ?_
                refine g_aload_n rfl ?_
                refine g_gfr hIH389 sx_25 rfl ?_
                refine g_iload_n rfl ?_
                refine g_iconst (by decide) (fun v414 kv414 => ?_)
                refine g_isub (by omega) (fun v415 ev415 => ?_)
                refine g_iaload hIH389 sx_27 rfl (by omega) (fun v416 ev416 lv416 uv416 => ?_)
                have yv416 : v416.toInt = (aZ H389 27 v415.toInt.toNat).toInt := by rw [ev416]
                refine g_iastore hIH389 sx_27 (by omega) (by omega) (fun H417 eH417 hIH417 => ?_)
                have hJH417 : JX H417 := JX_sA (by omega) eH417 hJH389
                have e418 : k1_1 = fZ H417 1 1 := by rw [eH417, fZ_sA]; exact e390
                have e419 : k25_2 = fZ H417 25 2 := by rw [eH417, fZ_sA]; exact e391
                have m420 : kpN 25 27 H H417 := kpN_A m392 eH417 (by omega)
                have m421 : ∀ i, aZ H417 26 i = aZ H 26 i := fun i => (by rw [eH417, aZ_sA_nc (by omega)] : aZ H417 26 i = aZ H389 26 i).trans (m393 i)
                have ie419 : k25_2.toInt = (fZ H417 25 2).toInt := by rw [← e419]
                refine g_iinc (l' := (fun v422 => [(0, .ref 25), (1, .int v380), (2, .int v422)])) rfl rfl (by decide) (by omega) (fun _ => rfl) (fun v422 ev422 => ?_)
                refine g_goto ?_
                exact ihL394 v422 H417 hIH417 hJH417 e418 e419 m420 m421 (by omega) (in_sp hIH389 sx_27 q2 eH417 (by omega) (by omega) (by rw [yv416, show v415.toInt.toNat = v388.toInt.toNat - 1 by omega]) (by rw [oru_t q2 yv404 (by omega) (by omega)]; show (aZ H 26 v380.toInt.toNat).toInt < (aZ H 26 v404.toInt.toNat).toInt; omega) (by omega)) (by omega)
        exact L394 _ v380 H381 hIH381 hJH381 e382 e383 m384 m385 (by omega) (in_00 q1) (Nat.lt_succ_self _)
  exact L386 _ v379 H hI hJ ek1_1 ek25_2 mkfr mk26 (by omega) (by omega) (fun q hq => by omega) (Nat.lt_succ_self _)
set_option maxRecDepth 4000 in
set_option maxHeartbeats 4000000 in
/-- X5.settle -/
theorem y_52 (H : mzH) (hI : gI SX H) (hJ : JX H) : gCall 52 [.ref 24] H (gRv (fun H' => gI SX H' ∧ JX H' ∧ fZ H' 1 1 = fZ H 1 1 ∧ kpB H H' ∧ cvX H')) := by
  obtain ⟨k1_1, ek1_1⟩ : ∃ z, z = fZ H 1 1 := ⟨_, rfl⟩
  have ik1_1 : k1_1.toInt = (fZ H 1 1).toInt := by rw [← ek1_1]
  have bk1_1 : 0 ≤ k1_1.toInt ∧ k1_1.toInt ≤ 900 := by rw [ek1_1]; exact fZ_of hI sx_1 rfl
  have mkfr : kpB H H := kpB_r
  refine gG_call [(0, .ref 24)] ⟨rfl, trivial⟩ ?_
  show gG 2 zB_52 (mzBlk zB_52 0) [(0, .ref 24)] [] H 0 0 _
  refine g_aload_n rfl ?_
  refine g_gfr hI sx_24 rfl ?_
  refine g_aload_n rfl ?_
  refine g_gfr hI sx_24 rfl ?_
  refine g_invvv hI sx_25 rfl rfl rfl rfl (y_24 H hI hJ) (fun H287 r288 => ?_)
  obtain ⟨hIH287, hJH287, w289, m290, p291, p292⟩ := r288
  have e293 : k1_1 = fZ H287 1 1 := ek1_1.trans w289.symm
  have m294 : kpB H H287 := kpB_t mkfr (kpB_N (by decide) m290)
  refine g_aload_n rfl ?_
  refine g_gfr hIH287 sx_24 rfl ?_
  refine g_invvv hIH287 sx_25 rfl rfl rfl rfl (y_25 H287 hIH287 hJH287) (fun H295 r296 => ?_)
  obtain ⟨hIH295, hJH295, w297, w298, m299, m300, p301, p302, p303⟩ := r296
  have e304 : k1_1 = fZ H295 1 1 := e293.trans w297.symm
  have m305 : kpB H H295 := kpB_t m294 (kpB_N (by decide) m299)
  refine g_aload_n rfl ?_
  refine g_gfr hIH295 sx_24 rfl ?_
  refine g_invvv hIH295 sx_28 rfl rfl rfl rfl (s_83 28 zWo_28 H295 hIH295 hJH295) (fun H306 r307 => ?_)
  obtain ⟨hIH306, hJH306, w308, m309⟩ := r307
  have e310 : k1_1 = fZ H306 1 1 := e304.trans w308.symm
  have m311 : kpB H H306 := kpB_t m305 (kpB_X m309)
  refine g_iconst (by decide) (fun v312 kv312 => ?_)
  refine g_istore_n (l' := [(0, .ref 24), (1, .int v312)]) rfl rfl ?_
  refine g_nop ?_
  have L317 : ∀ (N : Nat) (v313 : Int32) (H314 : mzH), gI SX H314 → JX H314 → k1_1 = fZ H314 1 1 → kpB H H314 → (0 ≤ v313.toInt ∧ v313.toInt ≤ 60) → cvX H314 → (60 - v313.toInt).toNat < N → gG 2 zB_52 (mzBlk zB_52 1) [(0, .ref 24), (1, .int v313)] [] H314 0 0 (gRv (fun H' => gI SX H' ∧ JX H' ∧ fZ H' 1 1 = fZ H 1 1 ∧ kpB H H' ∧ cvX H')) := by
    intro N
    induction N with
    | zero => intro v313 H314 hIH314 hJH314 e315 m316 bv313 q1 hmL317; exact absurd hmL317 (Nat.not_lt_zero _)
    | succ N ihL317 =>
      intro v313 H314 hIH314 hJH314 e315 m316 bv313 q1 hmL317
      refine g_iload_n rfl ?_
      refine g_aload_n rfl ?_
      refine g_gfr hIH314 sx_24 rfl ?_
      refine g_gfi hIH314 sx_25 rfl (fun v318 ev318 lv318 uv318 => ?_)
      refine g_if2_ge (fun c319 => ?_) (fun c319 => ?_)
      · exact g_ret ⟨rfl, hIH314, hJH314, (e315.symm.trans ek1_1), m316, q1⟩
      · refine g_aload_n rfl ?_
        refine g_gfr hIH314 sx_24 rfl ?_
        refine g_aload_n rfl ?_
        refine g_gfr hIH314 sx_24 rfl ?_
        refine g_gfr hIH314 sx_25 rfl ?_
        refine g_iload_n rfl ?_
        refine g_iaload hIH314 sx_27 rfl (by omega) (fun v320 ev320 lv320 uv320 => ?_)
        refine g_aload_n rfl ?_
        refine g_iload_n rfl ?_
        refine g_invvi hIH314 sx_24 rfl rfl rfl rfl (s_53 v313 (by omega) H314 hIH314 hJH314) (fun v323 H321 r322 => ?_)
        obtain ⟨hIH321, hJH321, w324, m325⟩ := r322
        have e326 : k1_1 = fZ H321 1 1 := e315.trans w324.symm
        have m327 : kpB H H321 := kpB_t m316 (kpB_X m325)
        refine g_iastore hIH321 sx_42 (by omega) (gz_any _) (fun H328 eH328 hIH328 => ?_)
        have hJH328 : JX H328 := JX_sA (by omega) eH328 hJH321
        have e329 : k1_1 = fZ H328 1 1 := by rw [eH328, fZ_sA]; exact e326
        have m330 : kpB H H328 := kpB_A m327 eH328 (by omega)
        refine g_iinc (l' := (fun v331 => [(0, .ref 24), (1, .int v331)])) rfl rfl (by decide) (by omega) (fun _ => rfl) (fun v331 ev331 => ?_)
        refine g_goto ?_
        exact ihL317 v331 H328 hIH328 hJH328 e329 m330 (by omega) (cvX_w (cvX_kp m325 q1) eH328) (by omega)
  exact L317 _ v312 H306 hIH306 hJH306 e310 m311 (by omega) (cv_0 m290 p291 p292 m299 p302 p303 p301 m309) (Nat.lt_succ_self _)
