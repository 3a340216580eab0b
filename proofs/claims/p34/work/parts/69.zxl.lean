/-! WHAT IS KEPT OF THE VERDICTS -/
/-- the message found, R its spot; or none -/
def ckR (H : mzH) (R v : Int) : Prop := (v = -2 ∧ R = -2) ∨ (∃ q : Nat, q < (fZ H 25 2).toInt.toNat ∧ R = (q : Int) ∧ v = (odX H q : Int))
theorem ck_b {H : mzH} {R v : Int} (h : ckR H R v) : v = -2 ∨ 0 ≤ v := by
  rcases h with ⟨h1, _⟩ | ⟨q, _, _, h3⟩
  · exact Or.inl h1
  · right
    omega
theorem ck_2 {H : mzH} {R w v : Int} (h : ckR H R v) (hw : v = -2 ∨ (¬ w = 0 ∧ ¬ w = 1)) : ((R = -2 ∧ v = -2) ∨ (∃ q : Nat, q < (fZ H 25 2).toInt.toNat ∧ R = (q : Int) ∧ v = (if w = 0 then roX H (odX H q) 3 else if w = 1 then (aZ H 6 (odX H q)).toInt else (odX H q : Int)))) := by
  rcases h with ⟨h1, h2⟩ | ⟨q, h1, h2, h3⟩
  · exact Or.inl ⟨h2, h1⟩
  · refine Or.inr ⟨q, h1, h2, ?_⟩
    have hw2 : ¬ w = 0 ∧ ¬ w = 1 := hw.resolve_left (by omega)
    rw [if_neg hw2.1, if_neg hw2.2]
    exact h3
theorem ck_0 {H : mzH} {R w v u : Int} (h : ckR H R v) (hw : ¬ v = -2) (hv : w = 0) (e : u = (aZ H 9 v.toNat).toInt) : ((R = -2 ∧ u = -2) ∨ (∃ q : Nat, q < (fZ H 25 2).toInt.toNat ∧ R = (q : Int) ∧ u = (if w = 0 then roX H (odX H q) 3 else if w = 1 then (aZ H 6 (odX H q)).toInt else (odX H q : Int)))) := by
  rcases h with ⟨h1, h2⟩ | ⟨q, h1, h2, h3⟩
  · exact absurd h1 hw
  · refine Or.inr ⟨q, h1, h2, ?_⟩
    rw [if_pos hv, e, h3, Int.toNat_natCast]
    rfl
theorem ck_1 {H : mzH} {R w v u : Int} (h : ckR H R v) (hw : ¬ v = -2) (hv : w = 1) (e : u = (aZ H 6 v.toNat).toInt) : ((R = -2 ∧ u = -2) ∨ (∃ q : Nat, q < (fZ H 25 2).toInt.toNat ∧ R = (q : Int) ∧ u = (if w = 0 then roX H (odX H q) 3 else if w = 1 then (aZ H 6 (odX H q)).toInt else (odX H q : Int)))) := by
  rcases h with ⟨h1, h2⟩ | ⟨q, h1, h2, h3⟩
  · exact absurd h1 hw
  · refine Or.inr ⟨q, h1, h2, ?_⟩
    rw [if_neg (by omega), if_pos hv, e, h3, Int.toNat_natCast]
set_option maxRecDepth 4000 in
set_option maxHeartbeats 4000000 in
/-- X5.clashOf -/
theorem w_68  (a1 : Int32) (a2 : Int32) (H : mzH) (hI : gI SX H) (hJ : JX H) (hp0 : 0 ≤ a2.toInt) : gCall 68 [.ref 24, .int a1, .int a2] H (gRi (fun v H' => H = H' ∧ (-2 ≤ v.toInt ∧ v.toInt ≤ 59) ∧ ckR H (pkF (fun q => if ((aZ H 42 (odX H q)).toInt = 6 ∨ (aZ H 42 (odX H q)).toInt = 10) ∧ roX H (odX H q) 1 = 6 ∧ roX H (odX H q) 2 = a1.toInt then (1 : Int) else 0) (fZ H 25 2).toInt.toNat 0 a2.toInt) v.toInt)) := by
  refine gG_call [(0, .ref 24), (1, .int a1), (2, .int a2)] ⟨rfl, rfl, rfl, trivial⟩ ?_
  show gG 7 zB_68 (mzBlk zB_68 0) [(0, .ref 24), (1, .int a1), (2, .int a2)] [] H 0 0 _
  refine g_iconst (by decide) (fun v1419 kv1419 => ?_)
  refine g_istore_n (l' := [(0, .ref 24), (1, .int a1), (2, .int a2), (3, .int v1419)]) rfl rfl ?_
  refine g_iconst (by decide) (fun v1420 kv1420 => ?_)
  refine g_istore (l' := [(0, .ref 24), (1, .int a1), (2, .int a2), (3, .int v1419), (4, .int v1420)]) rfl rfl ?_
  refine g_nop ?_
  have L1423 : ∀ (N : Nat) (v1421 : Int32) (v1422 : Int32), (0 ≤ v1421.toInt ∧ v1421.toInt ≤ 60) → (0 ≤ v1422.toInt ∧ v1422.toInt ≤ 60) → pkF (fun q => if ((aZ H 42 (odX H q)).toInt = 6 ∨ (aZ H 42 (odX H q)).toInt = 10) ∧ roX H (odX H q) 1 = 6 ∧ roX H (odX H q) 2 = a1.toInt then (1 : Int) else 0) ((fZ H 25 2).toInt.toNat - v1422.toInt.toNat) v1422.toInt.toNat (a2.toInt - v1421.toInt) = pkF (fun q => if ((aZ H 42 (odX H q)).toInt = 6 ∨ (aZ H 42 (odX H q)).toInt = 10) ∧ roX H (odX H q) 1 = 6 ∧ roX H (odX H q) 2 = a1.toInt then (1 : Int) else 0) (fZ H 25 2).toInt.toNat 0 a2.toInt → (v1421.toInt ≤ a2.toInt ∧ v1421.toInt ≤ v1422.toInt) → v1422.toInt ≤ (fZ H 25 2).toInt → (60 - v1422.toInt).toNat < N → gG 7 zB_68 (mzBlk zB_68 1) [(0, .ref 24), (1, .int a1), (2, .int a2), (3, .int v1421), (4, .int v1422)] [] H 0 0 (gRi (fun v H' => H = H' ∧ (-2 ≤ v.toInt ∧ v.toInt ≤ 59) ∧ ckR H (pkF (fun q => if ((aZ H 42 (odX H q)).toInt = 6 ∨ (aZ H 42 (odX H q)).toInt = 10) ∧ roX H (odX H q) 1 = 6 ∧ roX H (odX H q) 2 = a1.toInt then (1 : Int) else 0) (fZ H 25 2).toInt.toNat 0 a2.toInt) v.toInt)) := by
    intro N
    induction N with
    | zero => intro v1421 v1422 bv1421 bv1422 q1 q2 q3 hmL1423; exact absurd hmL1423 (Nat.not_lt_zero _)
    | succ N ihL1423 =>
      intro v1421 v1422 bv1421 bv1422 q1 q2 q3 hmL1423
      refine g_iload rfl ?_
      refine g_aload_n rfl ?_
      refine g_gfr hI sx_24 rfl ?_
      refine g_gfi hI sx_25 rfl (fun v1424 ev1424 lv1424 uv1424 => ?_)
      have zv1424 : v1424.toInt = (fZ H 25 2).toInt := by rw [ev1424]
      refine g_if2_ge (fun c1425 => ?_) (fun c1425 => ?_)
      · refine g_bipush (by decide) (fun v1426 kv1426 => ?_)
        exact g_iret ⟨_, rfl, rfl, (by omega), (Or.inl ⟨by omega, pk_e q1 (by omega)⟩)⟩
      · refine g_aload_n rfl ?_
        refine g_gfr hI sx_24 rfl ?_
        refine g_gfr hI sx_25 rfl ?_
        refine g_iload rfl ?_
        refine g_iaload hI sx_27 rfl (by omega) (fun v1427 ev1427 lv1427 uv1427 => ?_)
        have zkv1427 : v1427.toInt.toNat = odX H v1422.toInt.toNat := by rw [ev1427]; rfl
        refine g_istore (l' := [(0, .ref 24), (1, .int a1), (2, .int a2), (3, .int v1421), (4, .int v1422), (5, .int v1427)]) rfl rfl ?_
        refine g_aload_n rfl ?_
        refine g_gfr hI sx_24 rfl ?_
        refine g_iload rfl ?_
        refine g_iaload hI sx_42 rfl (by omega) (fun v1428 ev1428 lv1428 uv1428 => ?_)
        have yv1428 : v1428.toInt = (aZ H 42 (odX H v1422.toInt.toNat)).toInt := by rw [← zkv1427, ev1428]
        refine g_bipush (by decide) (fun v1429 kv1429 => ?_)
        refine g_if2_eq (fun c1430 => ?_) (fun c1430 => ?_)
        · refine g_iconst (by decide) (fun v1431 kv1431 => ?_)
          refine g_goto ?_
          refine g_istore (l' := [(0, .ref 24), (1, .int a1), (2, .int a2), (3, .int v1421), (4, .int v1422), (5, .int v1427), (6, .int v1431)]) rfl rfl ?_
          refine g_aload_n rfl ?_
          refine g_gfr hI sx_24 rfl ?_
          refine g_gfr hI sx_3 rfl ?_
          refine g_iload rfl ?_
          refine g_iaload hI sx_7 rfl (by omega) (fun v1432 ev1432 lv1432 uv1432 => ?_)
          have yv1432 : v1432.toInt = roX H (odX H v1422.toInt.toNat) 1 := by rw [← zkv1427, ev1432]; rfl
          refine g_bipush (by decide) (fun v1433 kv1433 => ?_)
          refine g_if2_ne (fun c1434 => ?_) (fun c1434 => ?_)
          · refine g_iinc (l' := (fun v1435 => [(0, .ref 24), (1, .int a1), (2, .int a2), (3, .int v1421), (4, .int v1435), (5, .int v1427), (6, .int v1431)])) rfl rfl (by decide) (by omega) (fun _ => rfl) (fun v1435 ev1435 => ?_)
            refine g_goto ?_
            refine gG_pick [0, 1, 2, 3, 4] (l' := [(0, .ref 24), (1, .int a1), (2, .int a2), (3, .int v1421), (4, .int v1435)]) rfl ?_
            exact ihL1423 v1421 v1435 (by omega) (by omega) (pk_n q1 (by show ¬ (if ((aZ H 42 (odX H v1422.toInt.toNat)).toInt = 6 ∨ (aZ H 42 (odX H v1422.toInt.toNat)).toInt = 10) ∧ roX H (odX H v1422.toInt.toNat) 1 = 6 ∧ roX H (odX H v1422.toInt.toNat) 2 = a1.toInt then (1 : Int) else 0) = 1; rw [if_neg (by omega)]; decide) (by omega) (by omega) (by omega)) (by omega) (by omega) (by omega)
          · refine g_aload_n rfl ?_
            refine g_gfr hI sx_24 rfl ?_
            refine g_gfr hI sx_3 rfl ?_
            refine g_iload rfl ?_
            refine g_iaload hI sx_8 rfl (by omega) (fun v1436 ev1436 lv1436 uv1436 => ?_)
            have yv1436 : v1436.toInt = roX H (odX H v1422.toInt.toNat) 2 := by rw [← zkv1427, ev1436]; rfl
            refine g_iload_n rfl ?_
            refine g_if2_ne (fun c1437 => ?_) (fun c1437 => ?_)
            · refine g_iinc (l' := (fun v1438 => [(0, .ref 24), (1, .int a1), (2, .int a2), (3, .int v1421), (4, .int v1438), (5, .int v1427), (6, .int v1431)])) rfl rfl (by decide) (by omega) (fun _ => rfl) (fun v1438 ev1438 => ?_)
              refine g_goto ?_
              refine gG_pick [0, 1, 2, 3, 4] (l' := [(0, .ref 24), (1, .int a1), (2, .int a2), (3, .int v1421), (4, .int v1438)]) rfl ?_
              exact ihL1423 v1421 v1438 (by omega) (by omega) (pk_n q1 (by show ¬ (if ((aZ H 42 (odX H v1422.toInt.toNat)).toInt = 6 ∨ (aZ H 42 (odX H v1422.toInt.toNat)).toInt = 10) ∧ roX H (odX H v1422.toInt.toNat) 1 = 6 ∧ roX H (odX H v1422.toInt.toNat) 2 = a1.toInt then (1 : Int) else 0) = 1; rw [if_neg (by omega)]; decide) (by omega) (by omega) (by omega)) (by omega) (by omega) (by omega)
            · refine g_iload rfl ?_
              refine g_if_eq (fun c1439 => ?_) (fun c1439 => ?_)
              · exfalso; omega
              · refine g_iload_n rfl ?_
                refine g_iload_n rfl ?_
                refine g_if2_ne (fun c1440 => ?_) (fun c1440 => ?_)
                · refine g_iinc (l' := (fun v1441 => [(0, .ref 24), (1, .int a1), (2, .int a2), (3, .int v1441), (4, .int v1422), (5, .int v1427), (6, .int v1431)])) rfl rfl (by decide) (by omega) (fun _ => rfl) (fun v1441 ev1441 => ?_)
                  refine g_nop ?_
                  refine g_iinc (l' := (fun v1442 => [(0, .ref 24), (1, .int a1), (2, .int a2), (3, .int v1441), (4, .int v1442), (5, .int v1427), (6, .int v1431)])) rfl rfl (by decide) (by omega) (fun _ => rfl) (fun v1442 ev1442 => ?_)
                  refine g_goto ?_
                  refine gG_pick [0, 1, 2, 3, 4] (l' := [(0, .ref 24), (1, .int a1), (2, .int a2), (3, .int v1441), (4, .int v1442)]) rfl ?_
                  exact ihL1423 v1441 v1442 (by omega) (by omega) (pk_s q1 (by show (if ((aZ H 42 (odX H v1422.toInt.toNat)).toInt = 6 ∨ (aZ H 42 (odX H v1422.toInt.toNat)).toInt = 10) ∧ roX H (odX H v1422.toInt.toNat) 1 = 6 ∧ roX H (odX H v1422.toInt.toNat) 2 = a1.toInt then (1 : Int) else 0) = 1; rw [if_pos (by omega)]) (by omega) (by omega) (by omega) (by omega)) (by omega) (by omega) (by omega)
                · refine g_iload rfl ?_
                  exact g_iret ⟨_, rfl, rfl, (by omega), (Or.inr ⟨v1422.toInt.toNat, by omega, by rw [← q1]; exact pk_y (by show (if ((aZ H 42 (odX H v1422.toInt.toNat)).toInt = 6 ∨ (aZ H 42 (odX H v1422.toInt.toNat)).toInt = 10) ∧ roX H (odX H v1422.toInt.toNat) 1 = 6 ∧ roX H (odX H v1422.toInt.toNat) 2 = a1.toInt then (1 : Int) else 0) = 1; rw [if_pos (by omega)]) (by omega) (by omega), by omega⟩)⟩
        · refine g_aload_n rfl ?_
          refine g_gfr hI sx_24 rfl ?_
          refine g_iload rfl ?_
          refine g_ialoadk hI sx_42 rfl (by omega) ev1428 ?_
          refine g_bipush (by decide) (fun v1443 kv1443 => ?_)
          refine g_if2_ne (fun c1444 => ?_) (fun c1444 => ?_)
          · refine g_iconst (by decide) (fun v1445 kv1445 => ?_)
            refine g_nop ?_
            refine g_istore (l' := [(0, .ref 24), (1, .int a1), (2, .int a2), (3, .int v1421), (4, .int v1422), (5, .int v1427), (6, .int v1445)]) rfl rfl ?_
            refine g_aload_n rfl ?_
            refine g_gfr hI sx_24 rfl ?_
            refine g_gfr hI sx_3 rfl ?_
            refine g_iload rfl ?_
            refine g_iaload hI sx_7 rfl (by omega) (fun v1446 ev1446 lv1446 uv1446 => ?_)
            have yv1446 : v1446.toInt = roX H (odX H v1422.toInt.toNat) 1 := by rw [← zkv1427, ev1446]; rfl
            refine g_bipush (by decide) (fun v1447 kv1447 => ?_)
            refine g_if2_ne (fun c1448 => ?_) (fun c1448 => ?_)
            · refine g_iinc (l' := (fun v1449 => [(0, .ref 24), (1, .int a1), (2, .int a2), (3, .int v1421), (4, .int v1449), (5, .int v1427), (6, .int v1445)])) rfl rfl (by decide) (by omega) (fun _ => rfl) (fun v1449 ev1449 => ?_)
              refine g_goto ?_
              refine gG_pick [0, 1, 2, 3, 4] (l' := [(0, .ref 24), (1, .int a1), (2, .int a2), (3, .int v1421), (4, .int v1449)]) rfl ?_
              exact ihL1423 v1421 v1449 (by omega) (by omega) (pk_n q1 (by show ¬ (if ((aZ H 42 (odX H v1422.toInt.toNat)).toInt = 6 ∨ (aZ H 42 (odX H v1422.toInt.toNat)).toInt = 10) ∧ roX H (odX H v1422.toInt.toNat) 1 = 6 ∧ roX H (odX H v1422.toInt.toNat) 2 = a1.toInt then (1 : Int) else 0) = 1; rw [if_neg (by omega)]; decide) (by omega) (by omega) (by omega)) (by omega) (by omega) (by omega)
            · refine g_aload_n rfl ?_
              refine g_gfr hI sx_24 rfl ?_
              refine g_gfr hI sx_3 rfl ?_
              refine g_iload rfl ?_
              refine g_iaload hI sx_8 rfl (by omega) (fun v1450 ev1450 lv1450 uv1450 => ?_)
              have yv1450 : v1450.toInt = roX H (odX H v1422.toInt.toNat) 2 := by rw [← zkv1427, ev1450]; rfl
              refine g_iload_n rfl ?_
              refine g_if2_ne (fun c1451 => ?_) (fun c1451 => ?_)
              · refine g_iinc (l' := (fun v1452 => [(0, .ref 24), (1, .int a1), (2, .int a2), (3, .int v1421), (4, .int v1452), (5, .int v1427), (6, .int v1445)])) rfl rfl (by decide) (by omega) (fun _ => rfl) (fun v1452 ev1452 => ?_)
                refine g_goto ?_
                refine gG_pick [0, 1, 2, 3, 4] (l' := [(0, .ref 24), (1, .int a1), (2, .int a2), (3, .int v1421), (4, .int v1452)]) rfl ?_
                exact ihL1423 v1421 v1452 (by omega) (by omega) (pk_n q1 (by show ¬ (if ((aZ H 42 (odX H v1422.toInt.toNat)).toInt = 6 ∨ (aZ H 42 (odX H v1422.toInt.toNat)).toInt = 10) ∧ roX H (odX H v1422.toInt.toNat) 1 = 6 ∧ roX H (odX H v1422.toInt.toNat) 2 = a1.toInt then (1 : Int) else 0) = 1; rw [if_neg (by omega)]; decide) (by omega) (by omega) (by omega)) (by omega) (by omega) (by omega)
              · refine g_iload rfl ?_
                refine g_if_eq (fun c1453 => ?_) (fun c1453 => ?_)
                · refine g_iinc (l' := (fun v1454 => [(0, .ref 24), (1, .int a1), (2, .int a2), (3, .int v1421), (4, .int v1454), (5, .int v1427), (6, .int v1445)])) rfl rfl (by decide) (by omega) (fun _ => rfl) (fun v1454 ev1454 => ?_)
                  refine g_goto ?_
                  refine gG_pick [0, 1, 2, 3, 4] (l' := [(0, .ref 24), (1, .int a1), (2, .int a2), (3, .int v1421), (4, .int v1454)]) rfl ?_
                  exact ihL1423 v1421 v1454 (by omega) (by omega) (pk_n q1 (by show ¬ (if ((aZ H 42 (odX H v1422.toInt.toNat)).toInt = 6 ∨ (aZ H 42 (odX H v1422.toInt.toNat)).toInt = 10) ∧ roX H (odX H v1422.toInt.toNat) 1 = 6 ∧ roX H (odX H v1422.toInt.toNat) 2 = a1.toInt then (1 : Int) else 0) = 1; rw [if_neg (by omega)]; decide) (by omega) (by omega) (by omega)) (by omega) (by omega) (by omega)
                · exfalso; omega
          · refine g_nop ?_
            refine g_iconst (by decide) (fun v1455 kv1455 => ?_)
            refine g_goto ?_
            refine g_istore (l' := [(0, .ref 24), (1, .int a1), (2, .int a2), (3, .int v1421), (4, .int v1422), (5, .int v1427), (6, .int v1455)]) rfl rfl ?_
            refine g_aload_n rfl ?_
            refine g_gfr hI sx_24 rfl ?_
            refine g_gfr hI sx_3 rfl ?_
            refine g_iload rfl ?_
            refine g_iaload hI sx_7 rfl (by omega) (fun v1456 ev1456 lv1456 uv1456 => ?_)
            have yv1456 : v1456.toInt = roX H (odX H v1422.toInt.toNat) 1 := by rw [← zkv1427, ev1456]; rfl
            refine g_bipush (by decide) (fun v1457 kv1457 => ?_)
            refine g_if2_ne (fun c1458 => ?_) (fun c1458 => ?_)
            · refine g_iinc (l' := (fun v1459 => [(0, .ref 24), (1, .int a1), (2, .int a2), (3, .int v1421), (4, .int v1459), (5, .int v1427), (6, .int v1455)])) rfl rfl (by decide) (by omega) (fun _ => rfl) (fun v1459 ev1459 => ?_)
              refine g_goto ?_
              refine gG_pick [0, 1, 2, 3, 4] (l' := [(0, .ref 24), (1, .int a1), (2, .int a2), (3, .int v1421), (4, .int v1459)]) rfl ?_
              exact ihL1423 v1421 v1459 (by omega) (by omega) (pk_n q1 (by show ¬ (if ((aZ H 42 (odX H v1422.toInt.toNat)).toInt = 6 ∨ (aZ H 42 (odX H v1422.toInt.toNat)).toInt = 10) ∧ roX H (odX H v1422.toInt.toNat) 1 = 6 ∧ roX H (odX H v1422.toInt.toNat) 2 = a1.toInt then (1 : Int) else 0) = 1; rw [if_neg (by omega)]; decide) (by omega) (by omega) (by omega)) (by omega) (by omega) (by omega)
            · refine g_aload_n rfl ?_
              refine g_gfr hI sx_24 rfl ?_
              refine g_gfr hI sx_3 rfl ?_
              refine g_iload rfl ?_
              refine g_iaload hI sx_8 rfl (by omega) (fun v1460 ev1460 lv1460 uv1460 => ?_)
              have yv1460 : v1460.toInt = roX H (odX H v1422.toInt.toNat) 2 := by rw [← zkv1427, ev1460]; rfl
              refine g_iload_n rfl ?_
              refine g_if2_ne (fun c1461 => ?_) (fun c1461 => ?_)
              · refine g_iinc (l' := (fun v1462 => [(0, .ref 24), (1, .int a1), (2, .int a2), (3, .int v1421), (4, .int v1462), (5, .int v1427), (6, .int v1455)])) rfl rfl (by decide) (by omega) (fun _ => rfl) (fun v1462 ev1462 => ?_)
                refine g_goto ?_
                refine gG_pick [0, 1, 2, 3, 4] (l' := [(0, .ref 24), (1, .int a1), (2, .int a2), (3, .int v1421), (4, .int v1462)]) rfl ?_
                exact ihL1423 v1421 v1462 (by omega) (by omega) (pk_n q1 (by show ¬ (if ((aZ H 42 (odX H v1422.toInt.toNat)).toInt = 6 ∨ (aZ H 42 (odX H v1422.toInt.toNat)).toInt = 10) ∧ roX H (odX H v1422.toInt.toNat) 1 = 6 ∧ roX H (odX H v1422.toInt.toNat) 2 = a1.toInt then (1 : Int) else 0) = 1; rw [if_neg (by omega)]; decide) (by omega) (by omega) (by omega)) (by omega) (by omega) (by omega)
              · refine g_iload rfl ?_
                refine g_if_eq (fun c1463 => ?_) (fun c1463 => ?_)
                · exfalso; omega
                · refine g_iload_n rfl ?_
                  refine g_iload_n rfl ?_
                  refine g_if2_ne (fun c1464 => ?_) (fun c1464 => ?_)
                  · refine g_iinc (l' := (fun v1465 => [(0, .ref 24), (1, .int a1), (2, .int a2), (3, .int v1465), (4, .int v1422), (5, .int v1427), (6, .int v1455)])) rfl rfl (by decide) (by omega) (fun _ => rfl) (fun v1465 ev1465 => ?_)
                    refine g_nop ?_
                    refine g_iinc (l' := (fun v1466 => [(0, .ref 24), (1, .int a1), (2, .int a2), (3, .int v1465), (4, .int v1466), (5, .int v1427), (6, .int v1455)])) rfl rfl (by decide) (by omega) (fun _ => rfl) (fun v1466 ev1466 => ?_)
                    refine g_goto ?_
                    refine gG_pick [0, 1, 2, 3, 4] (l' := [(0, .ref 24), (1, .int a1), (2, .int a2), (3, .int v1465), (4, .int v1466)]) rfl ?_
                    exact ihL1423 v1465 v1466 (by omega) (by omega) (pk_s q1 (by show (if ((aZ H 42 (odX H v1422.toInt.toNat)).toInt = 6 ∨ (aZ H 42 (odX H v1422.toInt.toNat)).toInt = 10) ∧ roX H (odX H v1422.toInt.toNat) 1 = 6 ∧ roX H (odX H v1422.toInt.toNat) 2 = a1.toInt then (1 : Int) else 0) = 1; rw [if_pos (by omega)]) (by omega) (by omega) (by omega) (by omega)) (by omega) (by omega) (by omega)
                  · refine g_iload rfl ?_
                    exact g_iret ⟨_, rfl, rfl, (by omega), (Or.inr ⟨v1422.toInt.toNat, by omega, by rw [← q1]; exact pk_y (by show (if ((aZ H 42 (odX H v1422.toInt.toNat)).toInt = 6 ∨ (aZ H 42 (odX H v1422.toInt.toNat)).toInt = 10) ∧ roX H (odX H v1422.toInt.toNat) 1 = 6 ∧ roX H (odX H v1422.toInt.toNat) 2 = a1.toInt then (1 : Int) else 0) = 1; rw [if_pos (by omega)]) (by omega) (by omega), by omega⟩)⟩
  exact L1423 _ v1419 v1420 (by omega) (by omega) (by rw [show (fZ H 25 2).toInt.toNat - v1420.toInt.toNat = (fZ H 25 2).toInt.toNat by omega, show v1420.toInt.toNat = 0 by omega, show a2.toInt - v1419.toInt = a2.toInt by omega]) (by omega) (by have := fZ_of hI sx_25 (f := 2) rfl; omega) (Nat.lt_succ_self _)
set_option maxRecDepth 4000 in
set_option maxHeartbeats 4000000 in
/-- X9.clash -/
theorem w_146  (a1 : Int32) (a2 : Int32) (a3 : Int32) (H : mzH) (hI : gI SX H) (hJ : JX H) : gCall 146 [.ref 0, .int a1, .int a2, .int a3] H (gRi (fun v H' => H = H' ∧ ((v.toInt = -1 ∧ ¬ ((0 ≤ a1.toInt ∧ a1.toInt ≤ 39) ∧ 0 ≤ a2.toInt ∧ (0 ≤ a3.toInt ∧ a3.toInt ≤ 2))) ∨ (((0 ≤ a1.toInt ∧ a1.toInt ≤ 39) ∧ 0 ≤ a2.toInt ∧ (0 ≤ a3.toInt ∧ a3.toInt ≤ 2)) ∧ ((pkF (fun q => if ((aZ H 42 (odX H q)).toInt = 6 ∨ (aZ H 42 (odX H q)).toInt = 10) ∧ roX H (odX H q) 1 = 6 ∧ roX H (odX H q) 2 = a1.toInt then (1 : Int) else 0) (fZ H 25 2).toInt.toNat 0 a2.toInt = -2 ∧ v.toInt = -2) ∨ (∃ q : Nat, q < (fZ H 25 2).toInt.toNat ∧ pkF (fun q => if ((aZ H 42 (odX H q)).toInt = 6 ∨ (aZ H 42 (odX H q)).toInt = 10) ∧ roX H (odX H q) 1 = 6 ∧ roX H (odX H q) 2 = a1.toInt then (1 : Int) else 0) (fZ H 25 2).toInt.toNat 0 a2.toInt = (q : Int) ∧ v.toInt = (if a3.toInt = 0 then roX H (odX H q) 3 else if a3.toInt = 1 then (aZ H 6 (odX H q)).toInt else (odX H q : Int)))))))) := by
  refine gG_call [(0, .ref 0), (1, .int a1), (2, .int a2), (3, .int a3)] ⟨rfl, rfl, rfl, rfl, trivial⟩ ?_
  show gG 5 zB_146 (mzBlk zB_146 0) [(0, .ref 0), (1, .int a1), (2, .int a2), (3, .int a3)] [] H 0 0 _
  refine g_iload_n rfl ?_
  refine g_invti rfl rfl rfl (w_149 a1 H hI hJ) (fun v99 H97 r98 => ?_)
  obtain ⟨rfl, bv99, p100⟩ := r98
  refine g_if_eq (fun c101 => ?_) (fun c101 => ?_)
  · refine g_iconst (by decide) (fun v102 kv102 => ?_)
    exact g_iret ⟨_, rfl, rfl, (Or.inl ⟨by omega, by omega⟩)⟩
  · refine g_iload_n rfl ?_
    refine g_if_lt (fun c103 => ?_) (fun c103 => ?_)
    · refine g_iconst (by decide) (fun v104 kv104 => ?_)
      exact g_iret ⟨_, rfl, rfl, (Or.inl ⟨by omega, by omega⟩)⟩
    · refine g_iload_n rfl ?_
      refine g_if_lt (fun c105 => ?_) (fun c105 => ?_)
      · refine g_iconst (by decide) (fun v106 kv106 => ?_)
        exact g_iret ⟨_, rfl, rfl, (Or.inl ⟨by omega, by omega⟩)⟩
      · refine g_iload_n rfl ?_
        refine g_iconst (by decide) (fun v107 kv107 => ?_)
        refine g_if2_le (fun c108 => ?_) (fun c108 => ?_)
        · refine g_aload_n rfl ?_
          refine g_gfr hI sx_0 rfl ?_
          refine g_iload_n rfl ?_
          refine g_iload_n rfl ?_
          refine g_invvi hI sx_24 rfl rfl rfl rfl (w_68 a1 a2 H hI hJ (by omega)) (fun v111 H109 r110 => ?_)
          obtain ⟨rfl, bv111, p112⟩ := r110
          have cb := ck_b p112
          refine g_istore (l' := [(0, .ref 0), (1, .int a1), (2, .int a2), (3, .int a3), (4, .int v111)]) rfl rfl ?_
          refine g_iload rfl ?_
          refine g_bipush (by decide) (fun v113 kv113 => ?_)
          refine g_if2_eq (fun c114 => ?_) (fun c114 => ?_)
          · refine g_iload rfl ?_
            exact g_iret ⟨_, rfl, rfl, (Or.inr ⟨by omega, ck_2 p112 (by omega)⟩)⟩
          · refine g_iload_n rfl ?_
            refine g_iconst (by decide) (fun v115 kv115 => ?_)
            refine g_if2_ne (fun c116 => ?_) (fun c116 => ?_)
            · refine g_iload_n rfl ?_
              refine g_if_ne (fun c117 => ?_) (fun c117 => ?_)
              · refine g_aload_n rfl ?_
                refine g_gfr hI sx_0 rfl ?_
                refine g_gfr hI sx_3 rfl ?_
                refine g_iload rfl ?_
                refine g_iaload hI sx_6 rfl (by omega) (fun v118 ev118 lv118 uv118 => ?_)
                have yv118 : v118.toInt = (aZ H 6 v111.toInt.toNat).toInt := by rw [ev118]
                refine g_nop ?_
                exact g_iret ⟨_, rfl, rfl, (Or.inr ⟨by omega, ck_1 p112 (by omega) (by omega) yv118⟩)⟩
              · refine g_aload_n rfl ?_
                refine g_gfr hI sx_0 rfl ?_
                refine g_gfr hI sx_3 rfl ?_
                refine g_iload rfl ?_
                refine g_iaload hI sx_9 rfl (by omega) (fun v119 ev119 lv119 uv119 => ?_)
                have yv119 : v119.toInt = (aZ H 9 v111.toInt.toNat).toInt := by rw [ev119]
                refine g_goto ?_
                exact g_iret ⟨_, rfl, rfl, (Or.inr ⟨by omega, ck_0 p112 (by omega) (by omega) yv119⟩)⟩
            · refine g_nop ?_
              refine g_iload rfl ?_
              exact g_iret ⟨_, rfl, rfl, (Or.inr ⟨by omega, ck_2 p112 (by omega)⟩)⟩
        · refine g_nop ?_
          refine g_iconst (by decide) (fun v120 kv120 => ?_)
          exact g_iret ⟨_, rfl, rfl, (Or.inl ⟨by omega, by omega⟩)⟩
