/-! THE REFERENCE'S BLAME -/
/-- the first of those at which w is least -/
def blW (w : Nat → Int) (n : Nat) (o l : Int) : Prop := (n = 0 ∧ o = -1) ∨ (∃ a, a < n ∧ o = (a : Int) ∧ l = w a ∧ ∀ b, b < n → w a < w b ∨ (w a = w b ∧ a ≤ b))
def blV (w : Nat → Int) (n : Nat) (k v : Int) : Prop := ∃ o l, blW w n o l ∧ ((o = -1 ∧ v = -2) ∨ (¬ o = -1 ∧ v = if k = 0 then o else l))
theorem blw_c {w : Nat → Int} {m n : Nat} {o l : Int} (q : blW w n o l) (e : m = n) : blW w m o l := by
  subst e
  exact q
theorem blw_0 {w : Nat → Int} {n : Nat} {o l : Int} (e : n = 0) (h : o = -1) : blW w n o l := Or.inl ⟨e, h⟩
theorem blw_y {w : Nat → Int} {n n2 : Nat} {o l o2 l2 : Int} (q : blW w n o l) (e : n2 = n + 1) (c : o = -1 ∨ w n < l) (ho : o2 = (n : Int)) (hl : l2 = w n) : blW w n2 o2 l2 := by
  subst e ho hl
  refine Or.inr ⟨n, by omega, rfl, rfl, fun b hb => ?_⟩
  if d : b = n then
    subst d
    exact Or.inr ⟨rfl, Nat.le_refl _⟩
  else
    rcases q with ⟨q1, _⟩ | ⟨a, a1, a2, a3, a4⟩
    · omega
    · left
      have z := a4 b (by omega)
      omega
theorem blw_n {w : Nat → Int} {n n2 : Nat} {o l o2 l2 : Int} (q : blW w n o l) (e : n2 = n + 1) (c : ¬ (o = -1 ∨ w n < l)) (ho : o2 = o) (hl : l2 = l) : blW w n2 o2 l2 := by
  subst e ho hl
  rcases q with ⟨_, q2⟩ | ⟨a, a1, a2, a3, a4⟩
  · exact absurd (Or.inl q2) c
  · refine Or.inr ⟨a, by omega, a2, a3, fun b hb => ?_⟩
    if d : b = n then
      subst d
      omega
    else exact a4 b (by omega)
theorem pb_kp {H B : mzH} {w : Nat → Int} (k : kpM H B) (h : (∀ m : Nat, (m : Int) < (aZ H 2 2).toInt → ∀ A : mzH, tkQ H A → (∀ q : Nat, (q : Int) < (aZ H 2 2).toInt → (inM A q ≠ 0 ↔ ¬ (q : Int) = (m : Int)) ∧ hoM A q = (aZ H 2 (69 + 5 * q)).toInt) → ∀ G : mzH, clR (rgM G) (mdM G) → cnt (fun x => ¬ rvM A G x = 0) (cnM A) = w m)) : (∀ m : Nat, (m : Int) < (aZ B 2 2).toInt → ∀ A : mzH, tkQ B A → (∀ q : Nat, (q : Int) < (aZ B 2 2).toInt → (inM A q ≠ 0 ↔ ¬ (q : Int) = (m : Int)) ∧ hoM A q = (aZ B 2 (69 + 5 * q)).toInt) → ∀ G : mzH, clR (rgM G) (mdM G) → cnt (fun x => ¬ rvM A G x = 0) (cnM A) = w m) := fun m hm A t sb G cG => by
  rw [k.1 2 (by decide)] at hm
  refine h m hm A (tkQ_kp k t) (sb_kp k sb) G cG
set_option maxRecDepth 4000 in
set_option maxHeartbeats 4000000 in
/-- M.blames -/
theorem r_226 {w : Nat → Int} (a1 : Int32) (ha1 : 0 ≤ a1.toInt ∧ a1.toInt ≤ 0) (H : mzH) (hI : gI SM H) (hJ : JN H) (hp0 : ((∀ A, tkQ H A → gdM A))) (hp1 : (∀ k : Nat, (k : Int) < (aZ H 2 2).toInt → 0 ≤ (aZ H 2 (69 + 5 * k)).toInt ∧ (aZ H 2 (69 + 5 * k)).toInt ≤ 999)) (hp2 : (∀ m : Nat, (m : Int) < (aZ H 2 2).toInt → ∀ A : mzH, tkQ H A → (∀ q : Nat, (q : Int) < (aZ H 2 2).toInt → (inM A q ≠ 0 ↔ ¬ (q : Int) = (m : Int)) ∧ hoM A q = (aZ H 2 (69 + 5 * q)).toInt) → ∀ G : mzH, clR (rgM G) (mdM G) → cnt (fun x => ¬ rvM A G x = 0) (cnM A) = w m)) : gCall 226 [.ref 0, .int a1] H (gRv (fun H' => gI SM H' ∧ JN H' ∧ fZ H' 0 2 = fZ H 0 2 ∧ kpM H H' ∧ blW w (aZ H 2 2).toInt.toNat (fZ H' 0 41).toInt (fZ H' 0 43).toInt)) := by
  obtain ⟨k0_2, ek0_2⟩ : ∃ z, z = fZ H 0 2 := ⟨_, rfl⟩
  have ik0_2 : k0_2.toInt = (fZ H 0 2).toInt := by rw [← ek0_2]
  have bk0_2 : 0 ≤ k0_2.toInt ∧ k0_2.toInt ≤ 900 := by rw [ek0_2]; exact fZ_of hI sm_0 rfl
  have mkfr : kpM H H := kpM_r
  refine gG_call [(0, .ref 0), (1, .int a1)] ⟨rfl, rfl, trivial⟩ ?_
  show gG 5 zB_226 (mzBlk zB_226 0) [(0, .ref 0), (1, .int a1)] [] H 0 0 _
  refine g_aload_n rfl ?_
  refine g_iconst (by decide) (fun v1310 kv1310 => ?_)
  refine g_pfi hI sm_0 rfl (gz_any _) (fun H1311 eH1311 hIH1311 => ?_)
  have hJH1311 : JN H1311 := JN_sF eH1311 hJ
  have e1312 : k0_2 = fZ H1311 0 2 := by rw [eH1311, fZ_sF_ne (by decide)]; exact ek0_2
  have e1313 : v1310 = fZ H1311 0 41 := by rw [eH1311, fZ_sF_eq hI sm_0 rfl]
  have m1314 : kpM H H1311 := kpM_F mkfr eH1311 (by omega)
  have jj1315_42 : (fZ H1311 0 42).toInt = (fZ H 0 42).toInt := by rw [eH1311, fZ_sF_ne (by decide)]
  have jj1316_43 : (fZ H1311 0 43).toInt = (fZ H 0 43).toInt := by rw [eH1311, fZ_sF_ne (by decide)]
  have ie1313 : v1310.toInt = (fZ H1311 0 41).toInt := by rw [← e1313]
  refine g_iconst (by decide) (fun v1317 kv1317 => ?_)
  refine g_istore_n (l' := [(0, .ref 0), (1, .int a1), (2, .int v1317)]) rfl rfl ?_
  refine g_nop ?_
  have L1322 : ∀ (N : Nat) (v1318 : Int32) (H1319 : mzH), gI SM H1319 → JN H1319 → k0_2 = fZ H1319 0 2 → kpM H H1319 → (0 ≤ v1318.toInt ∧ v1318.toInt ≤ 60) → blW w v1318.toInt.toNat (fZ H1319 0 41).toInt (fZ H1319 0 43).toInt → (v1318.toInt ≤ 0 ∨ v1318.toInt ≤ (aZ H 2 2).toInt) → (60 - v1318.toInt).toNat < N → gG 5 zB_226 (mzBlk zB_226 1) [(0, .ref 0), (1, .int a1), (2, .int v1318)] [] H1319 0 0 (gRv (fun H' => gI SM H' ∧ JN H' ∧ fZ H' 0 2 = fZ H 0 2 ∧ kpM H H' ∧ blW w (aZ H 2 2).toInt.toNat (fZ H' 0 41).toInt (fZ H' 0 43).toInt)) := by
    intro N
    induction N with
    | zero => intro v1318 H1319 hIH1319 hJH1319 e1320 m1321 bv1318 q1 q2 hmL1322; exact absurd hmL1322 (Nat.not_lt_zero _)
    | succ N ihL1322 =>
      intro v1318 H1319 hIH1319 hJH1319 e1320 m1321 bv1318 q1 q2 hmL1322
      refine g_iload_n rfl ?_
      refine g_aload_n rfl ?_
      refine g_invvi hIH1319 sm_0 rfl rfl rfl rfl (s_180 H1319 hIH1319 hJH1319) (fun v1325 H1323 r1324 => ?_)
      obtain ⟨rfl, bv1325, p1326⟩ := r1324
      have hm2 := congrArg Int32.toInt (m1321.1 2 (by decide) 2)
      refine g_if2_ge (fun c1327 => ?_) (fun c1327 => ?_)
      · exact g_ret ⟨rfl, hIH1319, hJH1319, (e1320.symm.trans ek0_2), m1321, (by rw [show (aZ H 2 2).toInt.toNat = v1318.toInt.toNat by omega]; exact q1)⟩
      · refine g_iload_n rfl ?_
        refine g_iconst (by decide) (fun v1328 kv1328 => ?_)
        refine g_iadd (by omega) (fun v1329 ev1329 => ?_)
        refine g_istore_n (l' := [(0, .ref 0), (1, .int a1), (2, .int v1318), (3, .int v1329)]) rfl rfl ?_
        refine g_nop ?_
        have L1334 : ∀ (N : Nat) (v1330 : Int32) (H1331 : mzH), gI SM H1331 → JN H1331 → k0_2 = fZ H1331 0 2 → kpM H H1331 → (1 ≤ v1330.toInt ∧ v1330.toInt ≤ 61) → blW w (v1330.toInt.toNat - 1) (fZ H1331 0 41).toInt (fZ H1331 0 43).toInt → (v1318.toInt + 1 ≤ v1330.toInt ∧ v1330.toInt ≤ v1318.toInt + 2) → (v1318.toInt < (aZ H 2 2).toInt) → (61 - v1330.toInt).toNat < N → gG 5 zB_226 (mzBlk zB_226 2) [(0, .ref 0), (1, .int a1), (2, .int v1318), (3, .int v1330)] [] H1331 0 0 (gRv (fun H' => gI SM H' ∧ JN H' ∧ fZ H' 0 2 = fZ H 0 2 ∧ kpM H H' ∧ blW w (aZ H 2 2).toInt.toNat (fZ H' 0 41).toInt (fZ H' 0 43).toInt)) := by
          intro N
          induction N with
          | zero => intro v1330 H1331 hIH1331 hJH1331 e1332 m1333 bv1330 q1 q4 q5 hmL1334; exact absurd hmL1334 (Nat.not_lt_zero _)
          | succ N ihL1334 =>
            intro v1330 H1331 hIH1331 hJH1331 e1332 m1333 bv1330 q1 q4 q5 hmL1334
            refine g_iload_n rfl ?_
            refine g_iload_n rfl ?_
            refine g_if_eq (fun c1335 => ?_) (fun c1335 => ?_)
            · refine g_iload_n rfl ?_
              refine g_iconst (by decide) (fun v1336 kv1336 => ?_)
              refine g_iadd (by omega) (fun v1337 ev1337 => ?_)
              refine g_nop ?_
              refine g_if2_ge (fun c1338 => ?_) (fun c1338 => ?_)
              · refine g_iinc (l' := (fun v1339 => [(0, .ref 0), (1, .int a1), (2, .int v1339), (3, .int v1330)])) rfl rfl (by decide) (by omega) (fun _ => rfl) (fun v1339 ev1339 => ?_)
                refine g_goto ?_
                refine gG_pick [0, 1, 2] (l' := [(0, .ref 0), (1, .int a1), (2, .int v1339)]) rfl ?_
                exact ihL1322 v1339 H1331 hIH1331 hJH1331 e1332 m1333 (by omega) (by rw [show v1339.toInt.toNat = v1330.toInt.toNat - 1 by omega]; exact q1) (by omega) (by omega)
              · refine g_aload_n rfl ?_
                refine g_iload_n rfl ?_
                refine g_iload_n rfl ?_
                refine g_if_eq (fun c1340 => ?_) (fun c1340 => ?_)
                · refine g_iconst (by decide) (fun v1341 kv1341 => ?_)
                  refine g_nop ?_
                  refine g_invvv hIH1331 sm_0 rfl rfl rfl rfl (r_222 v1318 (by omega) v1341 (by omega) H1331 hIH1331 hJH1331 (fun A t => hp0 A (tkQ_kp m1333 t)) (hr_kp m1333 hp1)) (fun H1342 r1343 => ?_)
                  obtain ⟨hIH1342, hJH1342, w1344, w1345, w1346, w1347, w1348, m1349, p1350⟩ := r1343
                  have e1351 : k0_2 = fZ H1342 0 2 := e1332.trans w1344.symm
                  have iw1346 : (fZ H1342 0 41).toInt = (fZ H1331 0 41).toInt := by rw [w1346]
                  have iw1347 : (fZ H1342 0 42).toInt = (fZ H1331 0 42).toInt := by rw [w1347]
                  have iw1348 : (fZ H1342 0 43).toInt = (fZ H1331 0 43).toInt := by rw [w1348]
                  have m1352 : kpM H H1342 := kpM_t m1333 m1349
                  obtain ⟨A1353, ttA1353, sbA1353, G1354, clG1354, wdA1353, wyA1353, oiA1353⟩ := p1350
                  have uA1353 : tkQ H A1353 := tkQ_kp m1333 ttA1353
                  have sdA1353 := sb_wo kv1341 (sb_kp m1333 sbA1353)
                  have pbA1353 := hp2 v1318.toInt.toNat (by omega) A1353 uA1353 (fun q hq => by have z := sdA1353 q hq; rw [show ((v1318.toInt.toNat : Nat) : Int) = v1318.toInt by omega]; exact z) G1354 clG1354
                  refine g_aload_n rfl ?_
                  refine g_invvi hIH1342 sm_0 rfl rfl rfl rfl (r_224 H1342 hIH1342 (JM_n hJH1342) oiA1353 wyA1353) (fun v1357 H1355 r1356 => ?_)
                  obtain ⟨rfl, p1358⟩ := r1356
                  have yv1357 : v1357.toInt = w v1318.toInt.toNat := p1358.trans pbA1353
                  refine g_istore (l' := [(0, .ref 0), (1, .int a1), (2, .int v1318), (3, .int v1330), (4, .int v1357)]) rfl rfl ?_
                  refine g_aload_n rfl ?_
                  refine g_gfi hIH1342 sm_0 rfl (fun v1359 ev1359 lv1359 uv1359 => ?_)
                  have iev1359 : v1359.toInt = (fZ H1342 0 41).toInt := by rw [← ev1359]
                  refine g_iconst (by decide) (fun v1360 kv1360 => ?_)
                  refine g_if2_eq (fun c1361 => ?_) (fun c1361 => ?_)
                  · refine g_aload_n rfl ?_
                    refine g_iload_n rfl ?_
                    refine g_pfi hIH1342 sm_0 rfl (gz_any _) (fun H1362 eH1362 hIH1362 => ?_)
                    have hJH1362 : JM H1362 := JM_sF eH1362 hJH1342
                    have e1363 : k0_2 = fZ H1362 0 2 := by rw [eH1362, fZ_sF_ne (by decide)]; exact e1351
                    have e1364 : v1318 = fZ H1362 0 41 := by rw [eH1362, fZ_sF_eq hIH1342 sm_0 rfl]
                    have m1365 : kpM H H1362 := kpM_F m1352 eH1362 (by omega)
                    have jj1366_42 : (fZ H1362 0 42).toInt = (fZ H1342 0 42).toInt := by rw [eH1362, fZ_sF_ne (by decide)]
                    have jj1367_43 : (fZ H1362 0 43).toInt = (fZ H1342 0 43).toInt := by rw [eH1362, fZ_sF_ne (by decide)]
                    have ie1364 : v1318.toInt = (fZ H1362 0 41).toInt := by rw [← e1364]
                    refine g_aload_n rfl ?_
                    refine g_iload_n rfl ?_
                    refine g_pfi hIH1362 sm_0 rfl (gz_any _) (fun H1368 eH1368 hIH1368 => ?_)
                    have hJH1368 : JM H1368 := JM_sF eH1368 hJH1362
                    have e1369 : k0_2 = fZ H1368 0 2 := by rw [eH1368, fZ_sF_ne (by decide)]; exact e1363
                    have e1370 : v1318 = fZ H1368 0 41 := by rw [eH1368, fZ_sF_ne (by decide)]; exact e1364
                    have e1371 : v1330 = fZ H1368 0 42 := by rw [eH1368, fZ_sF_eq hIH1362 sm_0 rfl]
                    have m1372 : kpM H H1368 := kpM_F m1365 eH1368 (by omega)
                    have jj1373_43 : (fZ H1368 0 43).toInt = (fZ H1362 0 43).toInt := by rw [eH1368, fZ_sF_ne (by decide)]
                    have ie1370 : v1318.toInt = (fZ H1368 0 41).toInt := by rw [← e1370]
                    have ie1371 : v1330.toInt = (fZ H1368 0 42).toInt := by rw [← e1371]
                    refine g_aload_n rfl ?_
                    refine g_iload rfl ?_
                    refine g_pfi hIH1368 sm_0 rfl (gz_any _) (fun H1374 eH1374 hIH1374 => ?_)
                    have hJH1374 : JM H1374 := JM_sF eH1374 hJH1368
                    have e1375 : k0_2 = fZ H1374 0 2 := by rw [eH1374, fZ_sF_ne (by decide)]; exact e1369
                    have e1376 : v1318 = fZ H1374 0 41 := by rw [eH1374, fZ_sF_ne (by decide)]; exact e1370
                    have e1377 : v1330 = fZ H1374 0 42 := by rw [eH1374, fZ_sF_ne (by decide)]; exact e1371
                    have e1378 : v1357 = fZ H1374 0 43 := by rw [eH1374, fZ_sF_eq hIH1368 sm_0 rfl]
                    have m1379 : kpM H H1374 := kpM_F m1372 eH1374 (by omega)
                    have ie1376 : v1318.toInt = (fZ H1374 0 41).toInt := by rw [← e1376]
                    have ie1377 : v1330.toInt = (fZ H1374 0 42).toInt := by rw [← e1377]
                    have ie1378 : v1357.toInt = (fZ H1374 0 43).toInt := by rw [← e1378]
                    refine g_nop ?_
                    refine g_iinc (l' := (fun v1380 => [(0, .ref 0), (1, .int a1), (2, .int v1318), (3, .int v1380), (4, .int v1357)])) rfl rfl (by decide) (by omega) (fun _ => rfl) (fun v1380 ev1380 => ?_)
                    refine g_goto ?_
                    refine gG_pick [0, 1, 2, 3] (l' := [(0, .ref 0), (1, .int a1), (2, .int v1318), (3, .int v1380)]) rfl ?_
                    exact ihL1334 v1380 H1374 hIH1374 (JM_n hJH1374) e1375 m1379 (by omega) (blw_y (blw_c q1 (show v1318.toInt.toNat = v1330.toInt.toNat - 1 by omega)) (by omega) (by omega) (by omega) (by omega)) (by omega) (by omega) (by omega)
                  · refine g_iload rfl ?_
                    refine g_aload_n rfl ?_
                    refine g_gfi hIH1342 sm_0 rfl (fun v1381 ev1381 lv1381 uv1381 => ?_)
                    have iev1381 : v1381.toInt = (fZ H1342 0 43).toInt := by rw [← ev1381]
                    refine g_if2_lt (fun c1382 => ?_) (fun c1382 => ?_)
                    · refine g_aload_n rfl ?_
                      refine g_iload_n rfl ?_
                      refine g_pfi hIH1342 sm_0 rfl (gz_any _) (fun H1383 eH1383 hIH1383 => ?_)
                      have hJH1383 : JM H1383 := JM_sF eH1383 hJH1342
                      have e1384 : k0_2 = fZ H1383 0 2 := by rw [eH1383, fZ_sF_ne (by decide)]; exact e1351
                      have e1385 : v1381 = fZ H1383 0 43 := by rw [eH1383, fZ_sF_ne (by decide)]; exact ev1381
                      have e1386 : v1318 = fZ H1383 0 41 := by rw [eH1383, fZ_sF_eq hIH1342 sm_0 rfl]
                      have m1387 : kpM H H1383 := kpM_F m1352 eH1383 (by omega)
                      have jj1388_42 : (fZ H1383 0 42).toInt = (fZ H1342 0 42).toInt := by rw [eH1383, fZ_sF_ne (by decide)]
                      have ie1385 : v1381.toInt = (fZ H1383 0 43).toInt := by rw [← e1385]
                      have ie1386 : v1318.toInt = (fZ H1383 0 41).toInt := by rw [← e1386]
                      refine g_aload_n rfl ?_
                      refine g_iload_n rfl ?_
                      refine g_pfi hIH1383 sm_0 rfl (gz_any _) (fun H1389 eH1389 hIH1389 => ?_)
                      have hJH1389 : JM H1389 := JM_sF eH1389 hJH1383
                      have e1390 : k0_2 = fZ H1389 0 2 := by rw [eH1389, fZ_sF_ne (by decide)]; exact e1384
                      have e1391 : v1381 = fZ H1389 0 43 := by rw [eH1389, fZ_sF_ne (by decide)]; exact e1385
                      have e1392 : v1318 = fZ H1389 0 41 := by rw [eH1389, fZ_sF_ne (by decide)]; exact e1386
                      have e1393 : v1330 = fZ H1389 0 42 := by rw [eH1389, fZ_sF_eq hIH1383 sm_0 rfl]
                      have m1394 : kpM H H1389 := kpM_F m1387 eH1389 (by omega)
                      have ie1391 : v1381.toInt = (fZ H1389 0 43).toInt := by rw [← e1391]
                      have ie1392 : v1318.toInt = (fZ H1389 0 41).toInt := by rw [← e1392]
                      have ie1393 : v1330.toInt = (fZ H1389 0 42).toInt := by rw [← e1393]
                      refine g_aload_n rfl ?_
                      refine g_iload rfl ?_
                      refine g_pfi hIH1389 sm_0 rfl (gz_any _) (fun H1395 eH1395 hIH1395 => ?_)
                      have hJH1395 : JM H1395 := JM_sF eH1395 hJH1389
                      have e1396 : k0_2 = fZ H1395 0 2 := by rw [eH1395, fZ_sF_ne (by decide)]; exact e1390
                      have e1397 : v1318 = fZ H1395 0 41 := by rw [eH1395, fZ_sF_ne (by decide)]; exact e1392
                      have e1398 : v1330 = fZ H1395 0 42 := by rw [eH1395, fZ_sF_ne (by decide)]; exact e1393
                      have e1399 : v1357 = fZ H1395 0 43 := by rw [eH1395, fZ_sF_eq hIH1389 sm_0 rfl]
                      have m1400 : kpM H H1395 := kpM_F m1394 eH1395 (by omega)
                      have ie1397 : v1318.toInt = (fZ H1395 0 41).toInt := by rw [← e1397]
                      have ie1398 : v1330.toInt = (fZ H1395 0 42).toInt := by rw [← e1398]
                      have ie1399 : v1357.toInt = (fZ H1395 0 43).toInt := by rw [← e1399]
                      refine g_nop ?_
                      refine g_iinc (l' := (fun v1401 => [(0, .ref 0), (1, .int a1), (2, .int v1318), (3, .int v1401), (4, .int v1357)])) rfl rfl (by decide) (by omega) (fun _ => rfl) (fun v1401 ev1401 => ?_)
                      refine g_goto ?_
                      refine gG_pick [0, 1, 2, 3] (l' := [(0, .ref 0), (1, .int a1), (2, .int v1318), (3, .int v1401)]) rfl ?_
                      exact ihL1334 v1401 H1395 hIH1395 (JM_n hJH1395) e1396 m1400 (by omega) (blw_y (blw_c q1 (show v1318.toInt.toNat = v1330.toInt.toNat - 1 by omega)) (by omega) (by omega) (by omega) (by omega)) (by omega) (by omega) (by omega)
                    · refine g_goto ?_
                      refine g_iinc (l' := (fun v1402 => [(0, .ref 0), (1, .int a1), (2, .int v1318), (3, .int v1402), (4, .int v1357)])) rfl rfl (by decide) (by omega) (fun _ => rfl) (fun v1402 ev1402 => ?_)
                      refine g_goto ?_
                      refine gG_pick [0, 1, 2, 3] (l' := [(0, .ref 0), (1, .int a1), (2, .int v1318), (3, .int v1402)]) rfl ?_
                      exact ihL1334 v1402 H1342 hIH1342 (JM_n hJH1342) e1351 m1352 (by omega) (blw_n (blw_c q1 (show v1318.toInt.toNat = v1330.toInt.toNat - 1 by omega)) (by omega) (by omega) (by omega) (by omega)) (by omega) (by omega) (by omega)
                · exfalso; omega
            · exfalso; omega
        exact L1334 _ v1329 H1319 hIH1319 hJH1319 e1320 m1321 (by omega) (by rw [show v1329.toInt.toNat - 1 = v1318.toInt.toNat by omega]; exact q1) (by omega) (by omega) (Nat.lt_succ_self _)
  exact L1322 _ v1317 H1311 hIH1311 hJH1311 e1312 m1314 (by omega) (blw_0 (by omega) (by omega)) (by omega) (Nat.lt_succ_self _)
set_option maxRecDepth 4000 in
set_option maxHeartbeats 4000000 in
/-- M.blamed -/
theorem r_227 {w : Nat → Int} (a1 : Int32) (H : mzH) (hI : gI SM H) (hJ : JN H) (hp0 : ((∀ A, tkQ H A → gdM A))) (hp1 : (∀ k : Nat, (k : Int) < (aZ H 2 2).toInt → 0 ≤ (aZ H 2 (69 + 5 * k)).toInt ∧ (aZ H 2 (69 + 5 * k)).toInt ≤ 999)) (hp2 : (∀ m : Nat, (m : Int) < (aZ H 2 2).toInt → ∀ A : mzH, tkQ H A → (∀ q : Nat, (q : Int) < (aZ H 2 2).toInt → (inM A q ≠ 0 ↔ ¬ (q : Int) = (m : Int)) ∧ hoM A q = (aZ H 2 (69 + 5 * q)).toInt) → ∀ G : mzH, clR (rgM G) (mdM G) → cnt (fun x => ¬ rvM A G x = 0) (cnM A) = w m)) : gCall 227 [.ref 0, .int a1] H (gRi (fun v H' => gI SM H' ∧ JN H' ∧ fZ H' 0 2 = fZ H 0 2 ∧ kpM H H' ∧ ((v.toInt = -1 ∧ ¬ (0 ≤ a1.toInt ∧ a1.toInt ≤ 1)) ∨ ((0 ≤ a1.toInt ∧ a1.toInt ≤ 1) ∧ blV w (aZ H 2 2).toInt.toNat a1.toInt v.toInt)))) := by
  obtain ⟨k0_2, ek0_2⟩ : ∃ z, z = fZ H 0 2 := ⟨_, rfl⟩
  have ik0_2 : k0_2.toInt = (fZ H 0 2).toInt := by rw [← ek0_2]
  have bk0_2 : 0 ≤ k0_2.toInt ∧ k0_2.toInt ≤ 900 := by rw [ek0_2]; exact fZ_of hI sm_0 rfl
  have mkfr : kpM H H := kpM_r
  refine gG_call [(0, .ref 0), (1, .int a1)] ⟨rfl, rfl, trivial⟩ ?_
  show gG 2 zB_227 (mzBlk zB_227 0) [(0, .ref 0), (1, .int a1)] [] H 0 0 _
  refine g_aload_n rfl ?_
  refine g_iconst (by decide) (fun v105 kv105 => ?_)
  refine g_pfi hI sm_0 rfl (gz_any _) (fun H106 eH106 hIH106 => ?_)
  have hJH106 : JN H106 := JN_sF eH106 hJ
  have e107 : k0_2 = fZ H106 0 2 := by rw [eH106, fZ_sF_ne (by decide)]; exact ek0_2
  have m108 : kpM H H106 := kpM_F mkfr eH106 (by omega)
  have jj109_41 : (fZ H106 0 41).toInt = (fZ H 0 41).toInt := by rw [eH106, fZ_sF_ne (by decide)]
  have jj110_42 : (fZ H106 0 42).toInt = (fZ H 0 42).toInt := by rw [eH106, fZ_sF_ne (by decide)]
  have jj111_43 : (fZ H106 0 43).toInt = (fZ H 0 43).toInt := by rw [eH106, fZ_sF_ne (by decide)]
  refine g_iload_n rfl ?_
  refine g_if_lt (fun c112 => ?_) (fun c112 => ?_)
  · refine g_iconst (by decide) (fun v113 kv113 => ?_)
    exact g_iret ⟨_, rfl, hIH106, hJH106, (e107.symm.trans ek0_2), m108, (Or.inl ⟨by omega, by omega⟩)⟩
  · refine g_iload_n rfl ?_
    refine g_iconst (by decide) (fun v114 kv114 => ?_)
    refine g_if2_le (fun c115 => ?_) (fun c115 => ?_)
    · refine g_aload_n rfl ?_
      refine g_iconst (by decide) (fun v116 kv116 => ?_)
      refine g_invvv hIH106 sm_0 rfl rfl rfl rfl (r_226 v116 (by omega) H106 hIH106 hJH106 (fun A t => hp0 A (tkQ_kp m108 t)) (hr_kp m108 hp1) (pb_kp m108 hp2)) (fun H117 r118 => ?_)
      obtain ⟨hIH117, hJH117, w119, m120, p121⟩ := r118
      have e122 : k0_2 = fZ H117 0 2 := e107.trans w119.symm
      have m123 : kpM H H117 := kpM_t m108 m120
      have bw := p121
      rw [m108.1 2 (by decide)] at bw
      refine g_aload_n rfl ?_
      refine g_gfi hIH117 sm_0 rfl (fun v124 ev124 lv124 uv124 => ?_)
      have iev124 : v124.toInt = (fZ H117 0 41).toInt := by rw [← ev124]
      refine g_iconst (by decide) (fun v125 kv125 => ?_)
      refine g_if2_ne (fun c126 => ?_) (fun c126 => ?_)
      · refine g_iload_n rfl ?_
        refine g_if_ne (fun c127 => ?_) (fun c127 => ?_)
        · refine g_aload_n rfl ?_
          refine g_gfi hIH117 sm_0 rfl (fun v128 ev128 lv128 uv128 => ?_)
          have iev128 : v128.toInt = (fZ H117 0 43).toInt := by rw [← ev128]
          refine g_nop ?_
          exact g_iret ⟨_, rfl, hIH117, hJH117, (e122.symm.trans ek0_2), m123, (Or.inr ⟨by omega, _, _, bw, Or.inr ⟨by omega, by rw [if_neg (by omega)]; omega⟩⟩)⟩
        · refine g_aload_n rfl ?_
          refine g_gfk hIH117 sm_0 rfl ev124 ?_
          refine g_goto ?_
          exact g_iret ⟨_, rfl, hIH117, hJH117, (e122.symm.trans ek0_2), m123, (Or.inr ⟨by omega, _, _, bw, Or.inr ⟨by omega, by rw [if_pos (by omega)]; omega⟩⟩)⟩
      · refine g_bipush (by decide) (fun v129 kv129 => ?_)
        refine g_goto ?_
        exact g_iret ⟨_, rfl, hIH117, hJH117, (e122.symm.trans ek0_2), m123, (Or.inr ⟨by omega, _, _, bw, Or.inl ⟨by omega, by omega⟩⟩)⟩
    · refine g_nop ?_
      refine g_iconst (by decide) (fun v130 kv130 => ?_)
      exact g_iret ⟨_, rfl, hIH106, hJH106, (e107.symm.trans ek0_2), m108, (Or.inl ⟨by omega, by omega⟩)⟩
