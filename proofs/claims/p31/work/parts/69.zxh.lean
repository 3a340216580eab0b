theorem oru_53 {G : mzH} {hr : Nat → Int} {t : Nat → Nat} {k n : Nat} {sp j v : Int32} (q : inO hr t k n sp.toInt.toNat (fun q => (aZ G 53 q).toInt)) (y : v.toInt = (aZ G 53 j.toInt.toNat).toInt) (ej : j.toInt = sp.toInt - 1) (h0 : 0 < sp.toInt) : t (sp.toInt.toNat - 1) = v.toInt.toNat := by
  have := q.2.1 (sp.toInt.toNat - 1) (by omega)
  have e : j.toInt.toNat = sp.toInt.toNat - 1 := by omega
  rw [e] at y
  have : v.toInt = (t (sp.toInt.toNat - 1) : Int) := y.trans this
  omega
set_option maxRecDepth 4000 in
set_option maxHeartbeats 4000000 in
/-- X2.takeHours -/
theorem y5_24 (H : mzH) (hI : gI SX H) (hJ : JX H) : gCall 24 [.ref 51, .ref 3] H (gRv (fun H' => gI SX H' ∧ JX H' ∧ fZ H' 1 1 = fZ H 1 1 ∧ kpN 51 53 H H' ∧ fZ H' 51 2 = fZ H 3 9 ∧ (∀ i, aZ H' 52 i = aZ H 6 i))) := by
  obtain ⟨k1_1, ek1_1⟩ : ∃ z, z = fZ H 1 1 := ⟨_, rfl⟩
  have ik1_1 : k1_1.toInt = (fZ H 1 1).toInt := by rw [← ek1_1]
  have bk1_1 : 0 ≤ k1_1.toInt ∧ k1_1.toInt ≤ 900 := by rw [ek1_1]; exact fZ_of hI sx_1 rfl
  have mkfr : kpN 51 53 H H := kpN_r
  refine gG_call [(0, .ref 51), (1, .ref 3)] ⟨rfl, rfl, trivial⟩ ?_
  show gG 2 zB_24 (mzBlk zB_24 0) [(0, .ref 51), (1, .ref 3)] [] H 0 0 _
  refine g_aload_n rfl ?_
  refine g_aload_n rfl ?_
  refine g_gfi hI sx_3 rfl (fun v41 ev41 lv41 uv41 => ?_)
  refine g_pfi hI sx_51 rfl (by omega) (fun H42 eH42 hIH42 => ?_)
  have hJH42 : JX H42 := JX_sF eH42 hJ
  have e43 : k1_1 = fZ H42 1 1 := by rw [eH42, fZ_sF_nc (by omega)]; exact ek1_1
  have m44 : kpN 51 53 H H42 := kpN_F mkfr eH42 (by omega)
  refine g_aload_n rfl ?_
  refine g_gfr hIH42 sx_3 rfl ?_
  refine g_iconst (by decide) (fun v45 kv45 => ?_)
  refine g_aload_n rfl ?_
  refine g_gfr hIH42 sx_51 rfl ?_
  refine g_iconst (by decide) (fun v46 kv46 => ?_)
  refine g_bipush (by decide) (fun v47 kv47 => ?_)
  refine g_acp hIH42 sx_52 sx_6 (by decide) (by decide) (by omega) (by omega) (by omega) rfl (fun H48 eH48 hIH48 => ?_)
  have hJH48 : JX H48 := JX_sC (by omega) eH48 hJH42
  have e49 : k1_1 = fZ H48 1 1 := by rw [eH48, fZ_sC hIH42 sx_52 sx_6]; exact e43
  have m50 : kpN 51 53 H H48 := kpN_C hIH42 sx_52 sx_6 m44 eH48 (by omega)
  exact g_ret ⟨rfl, hIH48, hJH48, (e49.symm.trans ek1_1), m50, (by rw [eH48, fZ_sC hIH42 sx_52 sx_6, eH42, fZ_sF_eq hI sx_51 rfl]; exact ev41), (fun i => by rw [eH48, aZ_sC_eq hIH42 sx_52 sx_6, eH42, aZ_sF])⟩
set_option maxRecDepth 4000 in
set_option maxHeartbeats 4000000 in
/-- X2.arrange -/
theorem y5_25 (H : mzH) (hI : gI SX H) (hJ : JX H) : gCall 25 [.ref 51] H (gRv (fun H' => gI SX H' ∧ JX H' ∧ fZ H' 1 1 = fZ H 1 1 ∧ fZ H' 51 2 = fZ H 51 2 ∧ kpN 51 53 H H' ∧ (∀ i, aZ H' 52 i = aZ H 52 i) ∧ (∀ q, q < (fZ H 51 2).toInt.toNat → (aZ H' 53 q).toInt = (ordF (fun i => (aZ H 52 i).toInt) (fZ H 51 2).toInt.toNat q : Int)) ∧ fZ H' 51 2 = fZ H 51 2 ∧ (∀ i, aZ H' 52 i = aZ H 52 i))) := by
  obtain ⟨k1_1, ek1_1⟩ : ∃ z, z = fZ H 1 1 := ⟨_, rfl⟩
  have ik1_1 : k1_1.toInt = (fZ H 1 1).toInt := by rw [← ek1_1]
  have bk1_1 : 0 ≤ k1_1.toInt ∧ k1_1.toInt ≤ 900 := by rw [ek1_1]; exact fZ_of hI sx_1 rfl
  obtain ⟨k25_2, ek25_2⟩ : ∃ z, z = fZ H 51 2 := ⟨_, rfl⟩
  have ik25_2 : k25_2.toInt = (fZ H 51 2).toInt := by rw [← ek25_2]
  have bk25_2 : 0 ≤ k25_2.toInt ∧ k25_2.toInt ≤ 60 := by rw [ek25_2]; exact fZ_of hI sx_51 rfl
  have mkfr : kpN 51 53 H H := kpN_r
  have mk26 : ∀ i, aZ H 52 i = aZ H 52 i := fun _ => rfl
  refine gG_call [(0, .ref 51)] ⟨rfl, trivial⟩ ?_
  show gG 3 zB_25 (mzBlk zB_25 0) [(0, .ref 51)] [] H 0 0 _
  refine g_iconst (by decide) (fun v379 kv379 => ?_)
  refine g_istore_n (l' := [(0, .ref 51), (1, .int v379)]) rfl rfl ?_
  refine g_nop ?_
  have L386 : ∀ (N : Nat) (v380 : Int32) (H381 : mzH), gI SX H381 → JX H381 → k1_1 = fZ H381 1 1 → k25_2 = fZ H381 51 2 → kpN 51 53 H H381 → (∀ i, aZ H381 52 i = aZ H 52 i) → (0 ≤ v380.toInt ∧ v380.toInt ≤ 60) → v380.toInt ≤ (fZ H 51 2).toInt → (∀ q : Nat, q < v380.toInt.toNat → (aZ H381 53 q).toInt = (ordF (fun i => (aZ H 52 i).toInt) v380.toInt.toNat q : Int)) → (60 - v380.toInt).toNat < N → gG 3 zB_25 (mzBlk zB_25 1) [(0, .ref 51), (1, .int v380)] [] H381 0 0 (gRv (fun H' => gI SX H' ∧ JX H' ∧ fZ H' 1 1 = fZ H 1 1 ∧ fZ H' 51 2 = fZ H 51 2 ∧ kpN 51 53 H H' ∧ (∀ i, aZ H' 52 i = aZ H 52 i) ∧ (∀ q, q < (fZ H 51 2).toInt.toNat → (aZ H' 53 q).toInt = (ordF (fun i => (aZ H 52 i).toInt) (fZ H 51 2).toInt.toNat q : Int)) ∧ fZ H' 51 2 = fZ H 51 2 ∧ (∀ i, aZ H' 52 i = aZ H 52 i))) := by
    intro N
    induction N with
    | zero => intro v380 H381 hIH381 hJH381 e382 e383 m384 m385 bv380 q0 q1 hmL386; exact absurd hmL386 (Nat.not_lt_zero _)
    | succ N ihL386 =>
      intro v380 H381 hIH381 hJH381 e382 e383 m384 m385 bv380 q0 q1 hmL386
      refine g_iload_n rfl ?_
      refine g_aload_n rfl ?_
      refine g_gfk hIH381 sx_51 rfl e383 ?_
      refine g_if2_ge (fun c387 => ?_) (fun c387 => ?_)
      · exact g_ret ⟨rfl, hIH381, hJH381, (e382.symm.trans ek1_1), (e383.symm.trans ek25_2), m384, m385, (fun q hq => by have z := q1 q (by omega); rw [z]; rw [show v380.toInt.toNat = (fZ H 51 2).toInt.toNat by omega]), (e383.symm.trans ek25_2), m385⟩
      · refine g_iload_n rfl ?_
        refine g_istore_n (l' := [(0, .ref 51), (1, .int v380), (2, .int v380)]) rfl rfl ?_
        refine g_nop ?_
        have L394 : ∀ (N : Nat) (v388 : Int32) (H389 : mzH), gI SX H389 → JX H389 → k1_1 = fZ H389 1 1 → k25_2 = fZ H389 51 2 → kpN 51 53 H H389 → (∀ i, aZ H389 52 i = aZ H 52 i) → (0 ≤ v388.toInt ∧ v388.toInt ≤ 59) → inO (fun i => (aZ H 52 i).toInt) (ordF (fun i => (aZ H 52 i).toInt) v380.toInt.toNat) v380.toInt.toNat v380.toInt.toNat v388.toInt.toNat (fun q => (aZ H389 53 q).toInt) → (v388.toInt - (0)).toNat < N → gG 3 zB_25 (mzBlk zB_25 2) [(0, .ref 51), (1, .int v380), (2, .int v388)] [] H389 0 0 (gRv (fun H' => gI SX H' ∧ JX H' ∧ fZ H' 1 1 = fZ H 1 1 ∧ fZ H' 51 2 = fZ H 51 2 ∧ kpN 51 53 H H' ∧ (∀ i, aZ H' 52 i = aZ H 52 i) ∧ (∀ q, q < (fZ H 51 2).toInt.toNat → (aZ H' 53 q).toInt = (ordF (fun i => (aZ H 52 i).toInt) (fZ H 51 2).toInt.toNat q : Int)) ∧ fZ H' 51 2 = fZ H 51 2 ∧ (∀ i, aZ H' 52 i = aZ H 52 i))) := by
          intro N
          induction N with
          | zero => intro v388 H389 hIH389 hJH389 e390 e391 m392 m393 bv388 q2 hmL394; exact absurd hmL394 (Nat.not_lt_zero _)
          | succ N ihL394 =>
            intro v388 H389 hIH389 hJH389 e390 e391 m392 m393 bv388 q2 hmL394
            refine g_iload_n rfl ?_
            refine g_if_le (fun c395 => ?_) (fun c395 => ?_)
            · refine g_aload_n rfl ?_
              refine g_gfr hIH389 sx_51 rfl ?_
              refine g_iload_n rfl ?_
              refine g_iload_n rfl ?_
              refine g_iastore hIH389 sx_53 (by omega) (by omega) (fun H396 eH396 hIH396 => ?_)
              have hJH396 : JX H396 := JX_sA (by omega) eH396 hJH389
              have e397 : k1_1 = fZ H396 1 1 := by rw [eH396, fZ_sA]; exact e390
              have e398 : k25_2 = fZ H396 51 2 := by rw [eH396, fZ_sA]; exact e391
              have m399 : kpN 51 53 H H396 := kpN_A m392 eH396 (by omega)
              have m400 : ∀ i, aZ H396 52 i = aZ H 52 i := fun i => (by rw [eH396, aZ_sA_nc (by omega)] : aZ H396 52 i = aZ H389 52 i).trans (m393 i)
              have ie398 : k25_2.toInt = (fZ H396 51 2).toInt := by rw [← e398]
              refine g_iinc (l' := (fun v401 => [(0, .ref 51), (1, .int v401), (2, .int v388)])) rfl rfl (by decide) (by omega) (fun _ => rfl) (fun v401 ev401 => ?_)
              refine g_goto ?_
              refine gG_pick [0, 1] (l' := [(0, .ref 51), (1, .int v401)]) rfl ?_
              exact ihL386 v401 H396 hIH396 hJH396 e397 e398 m399 m400 (by omega) (by omega) (or_nx (by omega) (in_en hIH389 sx_53 q2 eH396 (by omega) (by omega) (Or.inl (by omega)))) (by omega)
            · refine g_aload_n rfl ?_
              refine g_gfr hIH389 sx_51 rfl ?_
              refine g_aload_n rfl ?_
              refine g_gfr hIH389 sx_51 rfl ?_
              refine g_iload_n rfl ?_
              refine g_iconst (by decide) (fun v402 kv402 => ?_)
              refine g_isub (by omega) (fun v403 ev403 => ?_)
              refine g_iaload hIH389 sx_53 rfl (by omega) (fun v404 ev404 lv404 uv404 => ?_)
              have yv404 : v404.toInt = (aZ H389 53 v403.toInt.toNat).toInt := by rw [ev404]
              refine g_iaload hIH389 sx_52 rfl (by omega) (fun v405 ev405 lv405 uv405 => ?_)
              have yv405 : v405.toInt = (aZ H 52 v404.toInt.toNat).toInt := by rw [ev405, m393]
              refine g_aload_n rfl ?_
              refine g_gfr hIH389 sx_51 rfl ?_
              refine g_iload_n rfl ?_
              refine g_iaload hIH389 sx_52 rfl (by omega) (fun v406 ev406 lv406 uv406 => ?_)
              have yv406 : v406.toInt = (aZ H 52 v380.toInt.toNat).toInt := by rw [ev406, m393]
              refine g_if2_le (fun c407 => ?_) (fun c407 => ?_)
              · refine g_aload_n rfl ?_
                refine g_gfr hIH389 sx_51 rfl ?_
                refine g_iload_n rfl ?_
                refine g_iload_n rfl ?_
                refine g_iastore hIH389 sx_53 (by omega) (by omega) (fun H408 eH408 hIH408 => ?_)
                have hJH408 : JX H408 := JX_sA (by omega) eH408 hJH389
                have e409 : k1_1 = fZ H408 1 1 := by rw [eH408, fZ_sA]; exact e390
                have e410 : k25_2 = fZ H408 51 2 := by rw [eH408, fZ_sA]; exact e391
                have m411 : kpN 51 53 H H408 := kpN_A m392 eH408 (by omega)
                have m412 : ∀ i, aZ H408 52 i = aZ H 52 i := fun i => (by rw [eH408, aZ_sA_nc (by omega)] : aZ H408 52 i = aZ H389 52 i).trans (m393 i)
                have ie410 : k25_2.toInt = (fZ H408 51 2).toInt := by rw [← e410]
                refine g_iinc (l' := (fun v413 => [(0, .ref 51), (1, .int v413), (2, .int v388)])) rfl rfl (by decide) (by omega) (fun _ => rfl) (fun v413 ev413 => ?_)
                refine g_goto ?_
                refine gG_pick [0, 1] (l' := [(0, .ref 51), (1, .int v413)]) rfl ?_
                exact ihL386 v413 H408 hIH408 hJH408 e409 e410 m411 m412 (by omega) (by omega) (or_nx (by omega) (in_en hIH389 sx_53 q2 eH408 (by omega) (by omega) (Or.inr (by rw [oru_53 q2 yv404 (by omega) (by omega)]; show ¬ (aZ H 52 v380.toInt.toNat).toInt < (aZ H 52 v404.toInt.toNat).toInt; omega)))) (by omega)
              · refine g_aload_n rfl ?_
                refine g_gfr hIH389 sx_51 rfl ?_
                refine g_iload_n rfl ?_
                refine g_aload_n rfl ?_
                refine g_gfr hIH389 sx_51 rfl ?_
                refine g_iload_n rfl ?_
                refine g_iconst (by decide) (fun v414 kv414 => ?_)
                refine g_isub (by omega) (fun v415 ev415 => ?_)
                refine g_iaload hIH389 sx_53 rfl (by omega) (fun v416 ev416 lv416 uv416 => ?_)
                have yv416 : v416.toInt = (aZ H389 53 v415.toInt.toNat).toInt := by rw [ev416]
                refine g_iastore hIH389 sx_53 (by omega) (by omega) (fun H417 eH417 hIH417 => ?_)
                have hJH417 : JX H417 := JX_sA (by omega) eH417 hJH389
                have e418 : k1_1 = fZ H417 1 1 := by rw [eH417, fZ_sA]; exact e390
                have e419 : k25_2 = fZ H417 51 2 := by rw [eH417, fZ_sA]; exact e391
                have m420 : kpN 51 53 H H417 := kpN_A m392 eH417 (by omega)
                have m421 : ∀ i, aZ H417 52 i = aZ H 52 i := fun i => (by rw [eH417, aZ_sA_nc (by omega)] : aZ H417 52 i = aZ H389 52 i).trans (m393 i)
                have ie419 : k25_2.toInt = (fZ H417 51 2).toInt := by rw [← e419]
                refine g_iinc (l' := (fun v422 => [(0, .ref 51), (1, .int v380), (2, .int v422)])) rfl rfl (by decide) (by omega) (fun _ => rfl) (fun v422 ev422 => ?_)
                refine g_goto ?_
                exact ihL394 v422 H417 hIH417 hJH417 e418 e419 m420 m421 (by omega) (in_sp hIH389 sx_53 q2 eH417 (by omega) (by omega) (by rw [yv416, show v415.toInt.toNat = v388.toInt.toNat - 1 by omega]) (by rw [oru_53 q2 yv404 (by omega) (by omega)]; show (aZ H 52 v380.toInt.toNat).toInt < (aZ H 52 v404.toInt.toNat).toInt; omega) (by omega)) (by omega)
        exact L394 _ v380 H381 hIH381 hJH381 e382 e383 m384 m385 (by omega) (in_00 q1) (Nat.lt_succ_self _)
  exact L386 _ v379 H hI hJ ek1_1 ek25_2 mkfr mk26 (by omega) (by omega) (fun q hq => by omega) (Nat.lt_succ_self _)
set_option maxRecDepth 4000 in
set_option maxHeartbeats 4000000 in
/-- X3.outcome -/
theorem w_34  (a1 : Int32) (ha1 : -1 ≤ a1.toInt ∧ a1.toInt ≤ 39) (H : mzH) (hI : gI SX H) (hJ : JX H) (hp0 : gdO H) : gCall 34 [.ref 43, .int a1] H (gRi (fun v H' => gI SX H' ∧ JX H' ∧ fZ H' 1 1 = fZ H 1 1 ∧ kpX H H' ∧ v.toInt = otH H (fun j => (aZ H 52 j).toInt) (fZ H 51 2).toInt.toNat a1.toInt)) := by
  obtain ⟨k1_1, ek1_1⟩ : ∃ z, z = fZ H 1 1 := ⟨_, rfl⟩
  have ik1_1 : k1_1.toInt = (fZ H 1 1).toInt := by rw [← ek1_1]
  have bk1_1 : 0 ≤ k1_1.toInt ∧ k1_1.toInt ≤ 900 := by rw [ek1_1]; exact fZ_of hI sx_1 rfl
  have mkfr : kpX H H := kpX_r
  refine gG_call [(0, .ref 43), (1, .int a1)] ⟨rfl, rfl, trivial⟩ ?_
  show gG 4 zB_34 (mzBlk zB_34 0) [(0, .ref 43), (1, .int a1)] [] H 0 0 _
  refine g_aload_n rfl ?_
  refine g_gfr hI sx_43 rfl ?_
  refine g_invvv hI sx_51 rfl rfl rfl rfl (y5_25 H hI hJ) (fun H1083 r1084 => ?_)
  obtain ⟨hIH1083, hJH1083, w1085, w1086, m1087, m1088, p1089, p1090, p1091⟩ := r1084
  have e1092 : k1_1 = fZ H1083 1 1 := ek1_1.trans w1085.symm
  have m1093 : kpX H H1083 := kpX_t mkfr (kpX_N (c := 51) (by decide) m1087)
  have odH1083 := p1089
  refine g_aload_n rfl ?_
  refine g_gfr hIH1083 sx_43 rfl ?_
  refine g_invvv hIH1083 sx_44 rfl rfl rfl rfl (w_83 44 zWo_44 H1083 hIH1083 hJH1083) (fun H1094 r1095 => ?_)
  obtain ⟨hIH1094, hJH1094, w1096, m1097, p1098⟩ := r1095
  have e1099 : k1_1 = fZ H1094 1 1 := e1092.trans w1096.symm
  have m1100 : kpX H H1094 := kpX_t m1093 (kpX_W (by decide) m1097)
  have xm1101 : (∀ i, aZ H1094 53 i = aZ H1083 53 i) := fun i => ((m1097 53 (by decide)).2 i).trans ((fun _ => rfl) i)
  have xm1102 : (∀ i, aZ H1094 52 i = aZ H 52 i) := fun i => ((m1097 52 (by decide)).2 i).trans (p1091 i)
  have xm1103 : fZ H1094 51 2 = fZ H 51 2 := ((m1097 51 (by decide)).1 2).trans p1090
  refine g_iconst (by decide) (fun v1104 kv1104 => ?_)
  refine g_istore_n (l' := [(0, .ref 43), (1, .int a1), (2, .int v1104)]) rfl rfl ?_
  refine g_iconst (by decide) (fun v1105 kv1105 => ?_)
  refine g_istore_n (l' := [(0, .ref 43), (1, .int a1), (2, .int v1104), (3, .int v1105)]) rfl rfl ?_
  refine g_nop ?_
  have L1114 : ∀ (N : Nat) (v1106 : Int32) (v1107 : Int32) (H1108 : mzH), gI SX H1108 → JX H1108 → k1_1 = fZ H1108 1 1 → kpX H H1108 → (0 ≤ v1107.toInt ∧ v1107.toInt ≤ 60) → (∀ i, aZ H1108 53 i = aZ H1083 53 i) → (∀ i, aZ H1108 52 i = aZ H 52 i) → fZ H1108 51 2 = fZ H 51 2 → v1107.toInt ≤ (fZ H 51 2).toInt → wdX H1108 44 (rnH H (fun j => (aZ H 52 j).toInt) (olF v1107.toInt.toNat (ordF (fun j => (aZ H 52 j).toInt) (fZ H 51 2).toInt.toNat))) → v1106.toInt = rfH H (fun j => (aZ H 52 j).toInt) (ordF (fun j => (aZ H 52 j).toInt) (fZ H 51 2).toInt.toNat) v1107.toInt.toNat → (0 ≤ v1106.toInt ∧ v1106.toInt ≤ v1107.toInt) → (60 - v1107.toInt).toNat < N → gG 4 zB_34 (mzBlk zB_34 1) [(0, .ref 43), (1, .int a1), (2, .int v1106), (3, .int v1107)] [] H1108 0 0 (gRi (fun v H' => gI SX H' ∧ JX H' ∧ fZ H' 1 1 = fZ H 1 1 ∧ kpX H H' ∧ v.toInt = otH H (fun j => (aZ H 52 j).toInt) (fZ H 51 2).toInt.toNat a1.toInt)) := by
    intro N
    induction N with
    | zero => intro v1106 v1107 H1108 hIH1108 hJH1108 e1109 m1110 bv1107 xq1111 xq1112 xq1113 q0 q1 q2 q3 hmL1114; exact absurd hmL1114 (Nat.not_lt_zero _)
    | succ N ihL1114 =>
      intro v1106 v1107 H1108 hIH1108 hJH1108 e1109 m1110 bv1107 xq1111 xq1112 xq1113 q0 q1 q2 q3 hmL1114
      refine g_iload_n rfl ?_
      refine g_aload_n rfl ?_
      refine g_gfr hIH1108 sx_43 rfl ?_
      refine g_gfi hIH1108 sx_51 rfl (fun v1115 ev1115 lv1115 uv1115 => ?_)
      have zv1115 : v1115.toInt = (fZ H 51 2).toInt := by rw [ev1115, xq1113]
      refine g_if2_ge (fun c1116 => ?_) (fun c1116 => ?_)
      · refine g_iload_n rfl ?_
        refine g_if_ge (fun c1117 => ?_) (fun c1117 => ?_)
        · refine g_aload_n rfl ?_
          refine g_gfr hIH1108 sx_43 rfl ?_
          refine g_iload_n rfl ?_
          refine g_invvi hIH1108 sx_44 rfl rfl rfl rfl (w_91 44 zWo_44 a1 (by omega) H1108 hIH1108 hJH1108 q1) (fun v1120 H1118 r1119 => ?_)
          obtain ⟨rfl, p1121⟩ := r1119
          refine g_nop ?_
          exact g_iret ⟨_, rfl, hIH1108, hJH1108, (e1109.symm.trans ek1_1), m1110, (by unfold otH; rw [if_neg (by omega)]; have e := (show (fZ H 51 2).toInt.toNat = v1107.toInt.toNat from by omega); have z := p1121; rw [← e] at z; exact z)⟩
        · refine g_iload_n rfl ?_
          refine g_goto ?_
          exact g_iret ⟨_, rfl, hIH1108, hJH1108, (e1109.symm.trans ek1_1), m1110, (by unfold otH; rw [if_pos (by omega)]; have e := (show (fZ H 51 2).toInt.toNat = v1107.toInt.toNat from by omega); have z := q2; rw [← e] at z; exact z)⟩
      · refine g_iload_n rfl ?_
        refine g_aload_n rfl ?_
        refine g_gfr hIH1108 sx_43 rfl ?_
        refine g_aload_n rfl ?_
        refine g_gfr hIH1108 sx_43 rfl ?_
        refine g_aload_n rfl ?_
        refine g_gfr hIH1108 sx_43 rfl ?_
        refine g_gfr hIH1108 sx_51 rfl ?_
        refine g_iload_n rfl ?_
        refine g_iaload hIH1108 sx_53 rfl (by omega) (fun v1122 ev1122 lv1122 uv1122 => ?_)
        have zv1122 : v1122.toInt.toNat = (ordF (fun j => (aZ H 52 j).toInt) (fZ H 51 2).toInt.toNat) v1107.toInt.toNat := by have := odH1083 v1107.toInt.toNat (by omega); rw [ev1122, xq1111, this]; exact Int.toNat_natCast _
        refine g_aload_n rfl ?_
        refine g_gfr hIH1108 sx_43 rfl ?_
        refine g_iload_n rfl ?_
        refine g_invvi hIH1108 sx_51 rfl rfl rfl rfl (w_27 51 zCo_51 v1107 (by omega) H1108 hIH1108 hJH1108) (fun v1125 H1123 r1124 => ?_)
        obtain ⟨rfl, p1126⟩ := r1124
        have hyv1125 : v1125.toInt = (fun j => (aZ H 52 j).toInt) ((ordF (fun j => (aZ H 52 j).toInt) (fZ H 51 2).toInt.toNat) v1107.toInt.toNat) := by have := odH1083 v1107.toInt.toNat (by omega); rw [p1126]; show (aZ H1108 52 (aZ H1108 53 _).toInt.toNat).toInt = _; rw [xq1112, xq1111, this]; show (aZ H 52 _).toInt = (aZ H 52 _).toInt; rw [Int.toNat_natCast]
        have hbv1125 : 0 ≤ v1125.toInt ∧ v1125.toInt ≤ 999 := by rw [hyv1125]; exact hp0.2.2 _ (by have := ordF_in (hr := (fun j => (aZ H 52 j).toInt)) (N := (fZ H 51 2).toInt.toNat) (q := v1107.toInt.toNat) (by omega); omega)
        refine g_invvi hIH1108 sx_44 rfl rfl rfl rfl (w_93 44 zWo_44 v1122 (by omega) v1125 (by omega) H1108 hIH1108 hJH1108 q1 (wf_la (rn_ot hp0 (by omega))) (wf_kd (rn_ot hp0 (by omega))) (by rw [(m1110 7 (by decide)).2, zv1122]; exact (hp0.2.1 ((ordF (fun j => (aZ H 52 j).toInt) (fZ H 51 2).toInt.toNat) v1107.toInt.toNat) (ordF_in (by omega))).1)) (fun v1129 H1127 r1128 => ?_)
        obtain ⟨hIH1127, hJH1127, w1130, m1131, p1132, p1133⟩ := r1128
        have e1134 : k1_1 = fZ H1127 1 1 := e1109.trans w1130.symm
        have m1135 : kpX H H1127 := kpX_t m1110 (kpX_W (by decide) m1131)
        have xm1136 : (∀ i, aZ H1127 53 i = aZ H1083 53 i) := fun i => ((m1131 53 (by decide)).2 i).trans (xq1111 i)
        have xm1137 : (∀ i, aZ H1127 52 i = aZ H 52 i) := fun i => ((m1131 52 (by decide)).2 i).trans (xq1112 i)
        have xm1138 : fZ H1127 51 2 = fZ H 51 2 := ((m1131 51 (by decide)).1 2).trans xq1113
        have wzv1107 : wdX H1127 44 (stH H (fun j => (aZ H 52 j).toInt) (rnH H (fun j => (aZ H 52 j).toInt) (olF v1107.toInt.toNat (ordF (fun j => (aZ H 52 j).toInt) (fZ H 51 2).toInt.toNat))) ((ordF (fun j => (aZ H 52 j).toInt) (fZ H 51 2).toInt.toNat) v1107.toInt.toNat)) := gx_l3 m1110 p1132 zv1122 hyv1125
        have vdv1107 := gv_l3 (hr := (fun j => (aZ H 52 j).toInt)) m1110 p1133 zv1122 hyv1125
        refine g_if_eq (fun c1139 => ?_) (fun c1139 => ?_)
        · refine g_iconst (by decide) (fun v1140 kv1140 => ?_)
          refine g_nop ?_
          refine g_iadd (by have := gz_any v1106; omega) (fun v1141 ev1141 => ?_)
          refine g_istore_n (l' := [(0, .ref 43), (1, .int a1), (2, .int v1141), (3, .int v1107)]) rfl rfl ?_
          refine g_iinc (l' := (fun v1142 => [(0, .ref 43), (1, .int a1), (2, .int v1141), (3, .int v1142)])) rfl rfl (by decide) (by omega) (fun _ => rfl) (fun v1142 ev1142 => ?_)
          refine g_goto ?_
          exact ihL1114 v1141 v1142 H1127 hIH1127 hJH1127 e1134 m1135 (by omega) xm1136 xm1137 xm1138 (by omega) (by rw [show v1142.toInt.toNat = v1107.toInt.toNat + 1 by omega]; exact wd_rn wzv1107 olF_s) (cn_n q2 (by omega) (by show ¬ ¬ vdH H (fun j => (aZ H 52 j).toInt) (rnH H (fun j => (aZ H 52 j).toInt) (olF v1107.toInt.toNat (ordF (fun j => (aZ H 52 j).toInt) (fZ H 51 2).toInt.toNat))) ((ordF (fun j => (aZ H 52 j).toInt) (fZ H 51 2).toInt.toNat) v1107.toInt.toNat) = 0; omega) (by omega)) (by omega) (by omega)
        · refine g_iconst (by decide) (fun v1143 kv1143 => ?_)
          refine g_goto ?_
          refine g_iadd' (fun v1144 ov1144 => ?_)
          have sv1144 : v1144.toInt = v1106.toInt + v1143.toInt := gz_add_of ov1144 (by omega)
          refine g_istore_n (l' := [(0, .ref 43), (1, .int a1), (2, .int v1144), (3, .int v1107)]) rfl rfl ?_
          refine g_iinc (l' := (fun v1145 => [(0, .ref 43), (1, .int a1), (2, .int v1144), (3, .int v1145)])) rfl rfl (by decide) (by omega) (fun _ => rfl) (fun v1145 ev1145 => ?_)
          refine g_goto ?_
          exact ihL1114 v1144 v1145 H1127 hIH1127 hJH1127 e1134 m1135 (by omega) xm1136 xm1137 xm1138 (by omega) (by rw [show v1145.toInt.toNat = v1107.toInt.toNat + 1 by omega]; exact wd_rn wzv1107 olF_s) (cn_y q2 (by omega) (by show ¬ vdH H (fun j => (aZ H 52 j).toInt) (rnH H (fun j => (aZ H 52 j).toInt) (olF v1107.toInt.toNat (ordF (fun j => (aZ H 52 j).toInt) (fZ H 51 2).toInt.toNat))) ((ordF (fun j => (aZ H 52 j).toInt) (fZ H 51 2).toInt.toNat) v1107.toInt.toNat) = 0; omega) (by omega)) (by omega) (by omega)
  exact L1114 _ v1104 v1105 H1094 hIH1094 hJH1094 e1099 m1100 (by omega) xm1101 xm1102 xm1103 (by have := fZ_of hI sx_51 (f := 2) rfl; omega) (by rw [show v1105.toInt.toNat = 0 by omega]; exact p1098) (cn_0 (by omega) (by omega)) (by omega) (Nat.lt_succ_self _)
set_option maxRecDepth 4000 in
set_option maxHeartbeats 4000000 in
/-- X3.outcomeSwapped -/
theorem w_33  (a1 : Int32) (ha1 : 0 ≤ a1.toInt ∧ a1.toInt ≤ 59) (a2 : Int32) (ha2 : 0 ≤ a2.toInt ∧ a2.toInt ≤ 59) (a3 : Int32) (ha3 : -1 ≤ a3.toInt ∧ a3.toInt ≤ 39) (H : mzH) (hI : gI SX H) (hJ : JX H) (hp0 : gdY H) (hp1 : (a1.toInt < (fZ H 3 9).toInt ∧ a2.toInt < (fZ H 3 9).toInt)) : gCall 33 [.ref 43, .int a1, .int a2, .int a3] H (gRi (fun v H' => gI SX H' ∧ JX H' ∧ fZ H' 1 1 = fZ H 1 1 ∧ kpX H H' ∧ v.toInt = otH H (upi (upi (fun j => (aZ H 6 j).toInt) a1.toInt.toNat (aZ H 6 a2.toInt.toNat).toInt) a2.toInt.toNat (aZ H 6 a1.toInt.toNat).toInt) (fZ H 3 9).toInt.toNat a3.toInt)) := by
  obtain ⟨k1_1, ek1_1⟩ : ∃ z, z = fZ H 1 1 := ⟨_, rfl⟩
  have ik1_1 : k1_1.toInt = (fZ H 1 1).toInt := by rw [← ek1_1]
  have bk1_1 : 0 ≤ k1_1.toInt ∧ k1_1.toInt ≤ 900 := by rw [ek1_1]; exact fZ_of hI sx_1 rfl
  have mkfr : kpX H H := kpX_r
  refine gG_call [(0, .ref 43), (1, .int a1), (2, .int a2), (3, .int a3)] ⟨rfl, rfl, rfl, rfl, trivial⟩ ?_
  show gG 4 zB_33 (mzBlk zB_33 0) [(0, .ref 43), (1, .int a1), (2, .int a2), (3, .int a3)] [] H 0 0 _
  refine g_aload_n rfl ?_
  refine g_gfr hI sx_43 rfl ?_
  refine g_aload_n rfl ?_
  refine g_gfr hI sx_43 rfl ?_
  refine g_invvv hI sx_51 rfl rfl rfl rfl (y5_24 H hI hJ) (fun H97 r98 => ?_)
  obtain ⟨hIH97, hJH97, w99, m100, p101, p102⟩ := r98
  have e103 : k1_1 = fZ H97 1 1 := ek1_1.trans w99.symm
  have m104 : kpX H H97 := kpX_t mkfr (kpX_N (c := 51) (by decide) m100)
  refine g_aload_n rfl ?_
  refine g_gfr hIH97 sx_43 rfl ?_
  refine g_gfr hIH97 sx_51 rfl ?_
  refine g_iload_n rfl ?_
  refine g_aload_n rfl ?_
  refine g_gfr hIH97 sx_43 rfl ?_
  refine g_gfr hIH97 sx_3 rfl ?_
  refine g_iload_n rfl ?_
  refine g_iaload hIH97 sx_6 rfl (by omega) (fun v105 ev105 lv105 uv105 => ?_)
  have yv105 : v105.toInt = (aZ H 6 a2.toInt.toNat).toInt := by rw [ev105, (m104 6 (by decide)).2]
  have ybv105 := gdY_h hp0 a2.toInt.toNat (by omega)
  refine g_iastore hIH97 sx_52 (by omega) (gz_any _) (fun H106 eH106 hIH106 => ?_)
  have hJH106 : JX H106 := JX_sA (by omega) eH106 hJH97
  have e107 : k1_1 = fZ H106 1 1 := by rw [eH106, fZ_sA]; exact e103
  have m108 : kpX H H106 := kpX_A m104 eH106 (by omega)
  refine g_aload_n rfl ?_
  refine g_gfr hIH106 sx_43 rfl ?_
  refine g_gfr hIH106 sx_51 rfl ?_
  refine g_iload_n rfl ?_
  refine g_aload_n rfl ?_
  refine g_gfr hIH106 sx_43 rfl ?_
  refine g_gfr hIH106 sx_3 rfl ?_
  refine g_iload_n rfl ?_
  refine g_iaload hIH106 sx_6 rfl (by omega) (fun v109 ev109 lv109 uv109 => ?_)
  have yv109 : v109.toInt = (aZ H 6 a1.toInt.toNat).toInt := by rw [ev109, (m108 6 (by decide)).2]
  have ybv109 := gdY_h hp0 a1.toInt.toNat (by omega)
  refine g_iastore hIH106 sx_52 (by omega) (gz_any _) (fun H110 eH110 hIH110 => ?_)
  have hJH110 : JX H110 := JX_sA (by omega) eH110 hJH106
  have e111 : k1_1 = fZ H110 1 1 := by rw [eH110, fZ_sA]; exact e107
  have m112 : kpX H H110 := kpX_A m108 eH110 (by omega)
  refine g_aload_n rfl ?_
  refine g_iload_n rfl ?_
  have go := (gdO_of (hr := (upi (upi (fun j => (aZ H 6 j).toInt) a1.toInt.toNat v105.toInt) a2.toInt.toNat v109.toInt)) hp0 m112 (by rw [eH110, fZ_sA, eH106, fZ_sA]; exact p101) (at_h (f := (upi (fun j => (aZ H 6 j).toInt) a1.toInt.toNat v105.toInt)) (at_h (f := (fun j => (aZ H 6 j).toInt)) (fun j => by rw [p102]) hIH97 eH106 (by omega)) hIH106 eH110 (by omega)) (up_b (up_b (gdY_h hp0) (by omega)) (by omega)))
  refine g_invvi hIH110 sx_43 rfl rfl rfl rfl (w_34 a3 (by omega) H110 hIH110 hJH110 go.1) (fun v115 H113 r114 => ?_)
  obtain ⟨hIH113, hJH113, w116, m117, p118⟩ := r114
  have e119 : k1_1 = fZ H113 1 1 := e111.trans w116.symm
  have m120 : kpX H H113 := kpX_t m112 m117
  exact g_iret ⟨_, rfl, hIH113, hJH113, (e119.symm.trans ek1_1), m120, (by rw [p118]; have z := go.2 a3.toInt; rw [yv105, yv109] at z; exact z)⟩
set_option maxRecDepth 4000 in
set_option maxHeartbeats 4000000 in
/-- X9.ifSwapped -/
theorem w_143  (a1 : Int32) (a2 : Int32) (a3 : Int32) (H : mzH) (hI : gI SX H) (hJ : JX H) (hp0 : gdY H) : gCall 143 [.ref 0, .int a1, .int a2, .int a3] H (gRi (fun v H' => gI SX H' ∧ JX H' ∧ fZ H' 1 1 = fZ H 1 1 ∧ kpX H H' ∧ ((v.toInt = -1000 ∧ ¬ ((0 ≤ a1.toInt ∧ a1.toInt < (fZ H 3 9).toInt) ∧ (0 ≤ a2.toInt ∧ a2.toInt < (fZ H 3 9).toInt) ∧ ¬ a1.toInt = a2.toInt ∧ (-1 ≤ a3.toInt ∧ a3.toInt < 40))) ∨ (((0 ≤ a1.toInt ∧ a1.toInt < (fZ H 3 9).toInt) ∧ (0 ≤ a2.toInt ∧ a2.toInt < (fZ H 3 9).toInt) ∧ ¬ a1.toInt = a2.toInt ∧ (-1 ≤ a3.toInt ∧ a3.toInt < 40)) ∧ v.toInt = otH H (upi (upi (fun j => (aZ H 6 j).toInt) a1.toInt.toNat (aZ H 6 a2.toInt.toNat).toInt) a2.toInt.toNat (aZ H 6 a1.toInt.toNat).toInt) (fZ H 3 9).toInt.toNat a3.toInt)))) := by
  obtain ⟨k1_1, ek1_1⟩ : ∃ z, z = fZ H 1 1 := ⟨_, rfl⟩
  have ik1_1 : k1_1.toInt = (fZ H 1 1).toInt := by rw [← ek1_1]
  have bk1_1 : 0 ≤ k1_1.toInt ∧ k1_1.toInt ≤ 900 := by rw [ek1_1]; exact fZ_of hI sx_1 rfl
  have mkfr : kpX H H := kpX_r
  refine gG_call [(0, .ref 0), (1, .int a1), (2, .int a2), (3, .int a3)] ⟨rfl, rfl, rfl, rfl, trivial⟩ ?_
  show gG 4 zB_143 (mzBlk zB_143 0) [(0, .ref 0), (1, .int a1), (2, .int a2), (3, .int a3)] [] H 0 0 _
  refine g_aload_n rfl ?_
  refine g_gfr hI sx_0 rfl ?_
  refine g_iload_n rfl ?_
  refine g_invvi hI sx_3 rfl rfl rfl rfl (w_12 a1 H hI hJ) (fun v123 H121 r122 => ?_)
  obtain ⟨rfl, bv123, p124, p125⟩ := r122
  refine g_if_eq (fun c126 => ?_) (fun c126 => ?_)
  · refine g_sipush (by decide) (fun v127 kv127 => ?_)
    exact g_iret ⟨_, rfl, hI, hJ, (ek1_1.symm.trans ek1_1), mkfr, (Or.inl ⟨by omega, by omega⟩)⟩
  · refine g_aload_n rfl ?_
    refine g_gfr hI sx_0 rfl ?_
    refine g_iload_n rfl ?_
    refine g_invvi hI sx_3 rfl rfl rfl rfl (w_12 a2 H hI hJ) (fun v130 H128 r129 => ?_)
    obtain ⟨rfl, bv130, p131, p132⟩ := r129
    refine g_if_eq (fun c133 => ?_) (fun c133 => ?_)
    · refine g_sipush (by decide) (fun v134 kv134 => ?_)
      exact g_iret ⟨_, rfl, hI, hJ, (ek1_1.symm.trans ek1_1), mkfr, (Or.inl ⟨by omega, by omega⟩)⟩
    · refine g_iload_n rfl ?_
      refine g_iload_n rfl ?_
      refine g_if2_eq (fun c135 => ?_) (fun c135 => ?_)
      · refine g_sipush (by decide) (fun v136 kv136 => ?_)
        exact g_iret ⟨_, rfl, hI, hJ, (ek1_1.symm.trans ek1_1), mkfr, (Or.inl ⟨by omega, by omega⟩)⟩
      · refine g_iload_n rfl ?_
        refine g_iconst (by decide) (fun v137 kv137 => ?_)
        refine g_if2_lt (fun c138 => ?_) (fun c138 => ?_)
        · refine g_sipush (by decide) (fun v139 kv139 => ?_)
          exact g_iret ⟨_, rfl, hI, hJ, (ek1_1.symm.trans ek1_1), mkfr, (Or.inl ⟨by omega, by omega⟩)⟩
        · refine g_iload_n rfl ?_
          refine g_bipush (by decide) (fun v140 kv140 => ?_)
          refine g_if2_lt (fun c141 => ?_) (fun c141 => ?_)
          · refine g_aload_n rfl ?_
            refine g_gfr hI sx_0 rfl ?_
            refine g_iload_n rfl ?_
            refine g_iload_n rfl ?_
            refine g_iload_n rfl ?_
            refine g_invvi hI sx_43 rfl rfl rfl rfl (w_33 a1 (by omega) a2 (by omega) a3 (by omega) H hI hJ hp0 (by omega)) (fun v144 H142 r143 => ?_)
            obtain ⟨hIH142, hJH142, w145, m146, p147⟩ := r143
            have e148 : k1_1 = fZ H142 1 1 := ek1_1.trans w145.symm
            have m149 : kpX H H142 := kpX_t mkfr m146
            exact g_iret ⟨_, rfl, hIH142, hJH142, (e148.symm.trans ek1_1), m149, (Or.inr ⟨by omega, p147⟩)⟩
          · refine g_nop ?_
            refine g_sipush (by decide) (fun v150 kv150 => ?_)
            exact g_iret ⟨_, rfl, hI, hJ, (ek1_1.symm.trans ek1_1), mkfr, (Or.inl ⟨by omega, by omega⟩)⟩
