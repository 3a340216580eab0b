theorem pA_ok {T : pT} {g : pG} : (pAct T g).f ≠ 0 ∨ ((pAct T g).f = 0 ∧ g.f = 0) := by
  unfold pAct
  split
  · rcases pT_ok (T := T) (lo := 4) (hi := 4) (g := g) with h | ⟨h0, h1, _⟩
    · exact Or.inl h
    · exact Or.inr ⟨h0, h1⟩
  · rcases pT_ok (T := T) (lo := 8) (hi := 17) (g := g) with h | ⟨h0, h1, _⟩
    · exact Or.inl h
    · exact Or.inr ⟨h0, h1⟩
def bFt (b : pB) (u c : Int) : pB := pBm b.P b.R b.N u c 1 b.nm b.hr b.ac b.fi b.se b.ki
theorem frD_f {H B1 B2 B3 : mzH} {u c t : Int32} (e1 : B1 = sF H 11 10 u) (e2 : B2 = sF B1 11 11 c) (e3 : B3 = sF B2 11 12 t) : frD H B3 := fun q h => by rw [e3, c_sF (by omega), e2, c_sF (by omega), e1, c_sF (by omega)]
theorem bft_mk {H B1 B2 B3 : mzH} {b : pB} {u c t : Int32} (hI : gI SX H) (hI1 : gI SX B1) (hI2 : gI SX B2) (hb : bkX H 11 b) (e1 : B1 = sF H 11 10 u) (e2 : B2 = sF B1 11 11 c) (e3 : B3 = sF B2 11 12 t) (ht : t.toInt = 1) : bkX B3 11 (bFt b u.toInt c.toInt) := by
  obtain ⟨g1, g2, g3, g4, g5, g6, g7, g9, g10⟩ := hb
  have ff : ∀ f, f ≠ 10 → f ≠ 11 → f ≠ 12 → fZ B3 11 f = fZ H 11 f := fun f h1 h2 h3 => by rw [e3, fZ_sF_ne (Ne.symm h3), e2, fZ_sF_ne (Ne.symm h2), e1, fZ_sF_ne (Ne.symm h1)]
  have aa : ∀ c i, aZ B3 c i = aZ H c i := fun c i => by rw [e3, aZ_sF, e2, aZ_sF, e1, aZ_sF]
  refine ⟨?_, ?_, ?_, ?_, ?_, ?_, fun p hp => ?_, fun k hk => ?_, g10⟩
  · rw [ff 7 (by decide) (by decide) (by decide)]; exact g1
  · rw [ff 8 (by decide) (by decide) (by decide)]; exact g2
  · rw [ff 9 (by decide) (by decide) (by decide)]; exact g3
  · rw [e3, fZ_sF_ne (by decide), e2, fZ_sF_ne (by decide), e1, fZ_sF_eq hI sx_11 rfl]; rfl
  · rw [e3, fZ_sF_ne (by decide), e2, fZ_sF_eq hI1 sx_11 rfl]; rfl
  · rw [e3, fZ_sF_eq hI2 sx_11 rfl]; exact ht
  · rw [aa]; exact g7 p hp
  · rw [aa, aa, aa, aa, aa]; exact g9 k hk
/-! fits -/
def pRdF1 (b : pB) (T : pT) (g : pG) : pG := if b.F ≠ 0 then pTake T 2 2 (pFail T 3 g) else pTake T 2 2 g
def pRdF2 (b : pB) (T : pT) (g : pG) : pG := pNumb T 1 20 (pRdF1 b T g)
def pRdF (b : pB) (T : pT) (g : pG) : pG := pNumb T 1 20 (pRdF2 b T g)
def bRdF (b : pB) (T : pT) (g : pG) : pB := if (pRdF b T g).f = 0 then bFt b (T.V (pRdF1 b T g).t) (T.V (pRdF2 b T g).t) else b
/-! messages -/
def pM1 (b : pB) (T : pT) (g : pG) : pG := if b.N = 60 then pTake T 3 3 (pFail T 2 g) else pTake T 3 3 g
def pM2 (b : pB) (T : pT) (g : pG) : pG := pNumb T 0 999 (pM1 b T g)
def pM3 (b : pB) (T : pT) (g : pG) : pG := pAct T (pM2 b T g)
def pM4 (b : pB) (T : pT) (g : pG) : pG := pNumb T 0 39 (pM3 b T g)
def pM5 (b : pB) (T : pT) (g : pG) : pG := if pActV T (pM2 b T g) = 0 then pTake T 5 7 (pM4 b T g) else pM4 b T g
def pM6 (b : pB) (T : pT) (g : pG) : pG := pSec b T (pActV T (pM2 b T g)) (pM5 b T g)
def pKn (b : pB) (T : pT) (g : pG) : Int := if pActV T (pM2 b T g) = 0 then T.K (pM4 b T g).t - 5 else 0
def bMg (b : pB) (T : pT) (g : pG) : pB := if (pM6 b T g).f = 0 then bMs b (T.V (pM1 b T g).t) (pActV T (pM2 b T g)) (T.V (pM3 b T g).t) (pSecV b T (pActV T (pM2 b T g)) (pM5 b T g)) (pKn b T g) else b
/-! a line -/
def pLn1 (b : pB) (T : pT) (g : pG) : pG := if T.K g.t = 0 then pRdP b T g else if T.K g.t = 1 then pRdR b T g else if T.K g.t = 2 then pRdF b T g else if T.K g.t = 3 then pM6 b T g else pFail T 1 g
def bLn (b : pB) (T : pT) (g : pG) : pB := if T.K g.t = 0 then bRdP b T g else if T.K g.t = 1 then bRdR b T g else if T.K g.t = 2 then bRdF b T g else if T.K g.t = 3 then bMg b T g else b
def pLn (b : pB) (T : pT) (g : pG) : pG := pTake T 20 20 (pLn1 b T g)
set_option maxRecDepth 4000 in
set_option maxHeartbeats 4000000 in
/-- X4.readFits, exactly -/
theorem f_44 (H : mzH) (hI : gI SX H) (hJ : JX H) (x0 x1 x2 x3 x4 : Int32) (hx0 : 0 ≤ x0.toInt ∧ x0.toInt ≤ 900) {T : pT} {g : pG} {b : pB} (hp0 : tkH H T) (hp1 : rdX T g x0 x1 x2 x3 x4) (hp2 : bkX H 11 b) : gCall 44 [.ref 19] (rS H x0 x1 x2 x3 x4) (gRv (fun H' => ∃ B : mzH, ∃ y0 y1 y2 y3 y4 : Int32, H' = rS B y0 y1 y2 y3 y4 ∧ gI SX B ∧ JX B ∧ (0 ≤ y0.toInt ∧ y0.toInt ≤ 900) ∧ rdX T (pRdF b T g) y0 y1 y2 y3 y4 ∧ tkH B T ∧ bkX B 11 (bRdF b T g) ∧ frD H B)) := by
  obtain ⟨r0, r1, r2, r3, r4, r5⟩ := id hp1
  have w0 := hp0.2
  have w1 := hp2.2.2.2.2.2.1
  refine gG_call [(0, .ref 19)] ⟨rfl, trivial⟩ ?_
  show gG 3 zB_44 (mzBlk zB_44 0) [(0, .ref 19)] [] (rS H x0 x1 x2 x3 x4) 0 0 _
  refine g_aload_n rfl ?_
  refine g_gfr (rS_I hI (by omega)) sx_19 rfl ?_
  refine g_gfi (rS_I hI (by omega)) sx_11 rfl (fun v433 ev433 lv433 uv433 => ?_)
  have iv433 : v433.toInt = (fZ H 11 12).toInt := by rw [ev433, ← rS_o (by decide)]
  refine g_if_eq (fun c434 => ?_) (fun c434 => ?_)
  · refine g_aload_n rfl ?_
    refine g_iconst (by decide) (fun v435 kv435 => ?_)
    refine g_iconst (by decide) (fun v436 kv436 => ?_)
    refine g_invvi (rS_I hI (by omega)) sx_19 rfl rfl rfl rfl (f_50 v435 v436 H hI hJ x0 x1 x2 x3 x4 (by omega) hp0 hp1) (fun v439 H437 r438 => ?_)
    obtain ⟨y440, y441, y442, y443, y444, rfl, by440, zp445, zp446⟩ := r438
    rw [kv435] at zp445
    rw [kv435] at zp446
    rw [kv436] at zp445
    rw [kv436] at zp446
    obtain ⟨razp445, rbzp445, rczp445, rdzp445, rezp445, rfzp445⟩ := id zp445
    have al447 : pRdF1 b T g = (pTake T 2 2 g) := by unfold pRdF1; first | rw [if_pos (by omega)] | rw [if_neg (by omega)]
    have zp448 := zp445
    rw [← al447] at zp448
    rw [← al447] at zp446
    obtain ⟨razp448, rbzp448, rczp448, rdzp448, rezp448, rfzp448⟩ := id zp448
    refine g_pop rfl ?_
    refine g_aload_n rfl ?_
    refine g_iconst (by decide) (fun v449 kv449 => ?_)
    refine g_bipush (by decide) (fun v450 kv450 => ?_)
    refine g_invvi (rS_I hI (by omega)) sx_19 rfl rfl rfl rfl (f_48 v449 v450 H hI hJ y440 y441 y442 y443 y444 (by omega) hp0 zp448) (fun v453 H451 r452 => ?_)
    obtain ⟨y454, y455, y456, y457, y458, rfl, by454, zp459, zp460⟩ := r452
    rw [kv449] at zp459
    rw [kv450] at zp459
    obtain ⟨razp459, rbzp459, rczp459, rdzp459, rezp459, rfzp459⟩ := id zp459
    have kzp459 := pN_ok (T := T) (lo := 1) (hi := 20) (g := (pRdF1 b T g))
    have al461 : pRdF2 b T g = (pNumb T 1 20 (pRdF1 b T g)) := by rfl
    have zp462 := zp459
    rw [← al461] at zp462
    rw [← al461] at kzp459
    obtain ⟨razp462, rbzp462, rczp462, rdzp462, rezp462, rfzp462⟩ := id zp462
    refine g_istore_n (l' := [(0, .ref 19), (1, .int v453)]) rfl rfl ?_
    refine g_aload_n rfl ?_
    refine g_iconst (by decide) (fun v463 kv463 => ?_)
    refine g_bipush (by decide) (fun v464 kv464 => ?_)
    refine g_invvi (rS_I hI (by omega)) sx_19 rfl rfl rfl rfl (f_48 v463 v464 H hI hJ y454 y455 y456 y457 y458 (by omega) hp0 zp462) (fun v467 H465 r466 => ?_)
    obtain ⟨y468, y469, y470, y471, y472, rfl, by468, zp473, zp474⟩ := r466
    rw [kv463] at zp473
    rw [kv464] at zp473
    obtain ⟨razp473, rbzp473, rczp473, rdzp473, rezp473, rfzp473⟩ := id zp473
    have kzp473 := pN_ok (T := T) (lo := 1) (hi := 20) (g := (pRdF2 b T g))
    have al475 : pRdF b T g = (pNumb T 1 20 (pRdF2 b T g)) := by rfl
    have zp476 := zp473
    rw [← al475] at zp476
    rw [← al475] at kzp473
    obtain ⟨razp476, rbzp476, rczp476, rdzp476, rezp476, rfzp476⟩ := id zp476
    refine g_istore_n (l' := [(0, .ref 19), (1, .int v453), (2, .int v467)]) rfl rfl ?_
    refine g_aload_n rfl ?_
    refine g_gfk (rS_I hI (by omega)) sx_19 rfl (rS_g5 hI) ?_
    refine g_if_ne (fun c477 => ?_) (fun c477 => ?_)
    · exact g_ret ⟨rfl, H, y468, y469, y470, y471, y472, rfl, hI, hJ, (by omega), zp476, hp0, (by unfold bRdF; rw [if_neg (by omega)]; exact hp2), (fun _ _ => rfl)⟩
    · refine g_aload_n rfl ?_
      refine g_gfr (rS_I hI (by omega)) sx_19 rfl ?_
      refine g_iload_n rfl ?_
      refine g_pfi (rS_I hI (by omega)) sx_11 rfl (gz_any _) (fun H478 eH478 hIH478 => ?_)
      obtain ⟨B479, eB479⟩ : ∃ z, z = sF H 11 10 v453 := ⟨_, rfl⟩
      obtain rfl : H478 = (rS B479 y468 y469 y470 y471 y472) := by rw [eH478, eB479]; exact rS_cF (by decide)
      have hIB479 : gI SX B479 := by rw [eB479]; exact gI_sF hI sx_11 rfl (gz_any _)
      have hJB479 : JX B479 := JX_sF eB479 hJ
      refine g_aload_n rfl ?_
      refine g_gfr (rS_I hIB479 (by omega)) sx_19 rfl ?_
      refine g_iload_n rfl ?_
      refine g_pfi (rS_I hIB479 (by omega)) sx_11 rfl (gz_any _) (fun H480 eH480 hIH480 => ?_)
      obtain ⟨B481, eB481⟩ : ∃ z, z = sF B479 11 11 v467 := ⟨_, rfl⟩
      obtain rfl : H480 = (rS B481 y468 y469 y470 y471 y472) := by rw [eH480, eB481]; exact rS_cF (by decide)
      have hIB481 : gI SX B481 := by rw [eB481]; exact gI_sF hIB479 sx_11 rfl (gz_any _)
      have hJB481 : JX B481 := JX_sF eB481 hJB479
      refine g_aload_n rfl ?_
      refine g_gfr (rS_I hIB481 (by omega)) sx_19 rfl ?_
      refine g_iconst (by decide) (fun v482 kv482 => ?_)
      refine g_pfz (rS_I hIB481 (by omega)) sx_11 rfl (by omega) (fun H483 eH483 hIH483 => ?_)
      obtain ⟨B484, eB484⟩ : ∃ z, z = sF B481 11 12 v482 := ⟨_, rfl⟩
      obtain rfl : H483 = (rS B484 y468 y469 y470 y471 y472) := by rw [eH483, eB484]; exact rS_cF (by decide)
      have hIB484 : gI SX B484 := by rw [eB484]; exact gI_sF hIB481 sx_11 rfl (by omega)
      have hJB484 : JX B484 := JX_sF eB484 hJB481
      refine g_nop ?_
      exact g_ret ⟨rfl, B484, y468, y469, y470, y471, y472, rfl, hIB484, hJB484, (by omega), zp476, (tk_fr hp0 (frD_f eB479 eB481 eB484)), (by unfold bRdF; rw [if_pos (by omega)]; rw [← zp460, ← zp474]; exact bft_mk hI hIB479 hIB481 hp2 eB479 eB481 eB484 (by omega)), (frD_f eB479 eB481 eB484)⟩
  · refine g_aload_n rfl ?_
    refine g_iconst (by decide) (fun v485 kv485 => ?_)
    refine g_invvv (rS_I hI (by omega)) sx_19 rfl rfl rfl rfl (f_40 v485 (by omega) H hI hJ x0 x1 x2 x3 x4 (by omega) hp0 hp1) (fun H486 r487 => ?_)
    obtain ⟨y488, y489, rfl, zp490⟩ := r487
    rw [kv485] at zp490
    obtain ⟨razp490, rbzp490, rczp490, rdzp490, rezp490, rfzp490⟩ := id zp490
    have nzp490 := pF_ne (T := T) (g := g) (n := 3) (by omega)
    refine g_nop ?_
    refine g_aload_n rfl ?_
    refine g_iconst (by decide) (fun v491 kv491 => ?_)
    refine g_iconst (by decide) (fun v492 kv492 => ?_)
    refine g_invvi (rS_I hI (by omega)) sx_19 rfl rfl rfl rfl (f_50 v491 v492 H hI hJ x0 x1 x2 y488 y489 (by omega) hp0 zp490) (fun v495 H493 r494 => ?_)
    obtain ⟨y496, y497, y498, y499, y500, rfl, by496, zp501, zp502⟩ := r494
    rw [kv491] at zp501
    rw [kv491] at zp502
    rw [kv492] at zp501
    rw [kv492] at zp502
    obtain ⟨razp501, rbzp501, rczp501, rdzp501, rezp501, rfzp501⟩ := id zp501
    have al503 : pRdF1 b T g = (pTake T 2 2 (pFail T 3 g)) := by unfold pRdF1; first | rw [if_pos (by omega)] | rw [if_neg (by omega)]
    have zp504 := zp501
    rw [← al503] at zp504
    rw [← al503] at zp502
    obtain ⟨razp504, rbzp504, rczp504, rdzp504, rezp504, rfzp504⟩ := id zp504
    refine g_pop rfl ?_
    refine g_aload_n rfl ?_
    refine g_iconst (by decide) (fun v505 kv505 => ?_)
    refine g_bipush (by decide) (fun v506 kv506 => ?_)
    refine g_invvi (rS_I hI (by omega)) sx_19 rfl rfl rfl rfl (f_48 v505 v506 H hI hJ y496 y497 y498 y499 y500 (by omega) hp0 zp504) (fun v509 H507 r508 => ?_)
    obtain ⟨y510, y511, y512, y513, y514, rfl, by510, zp515, zp516⟩ := r508
    rw [kv505] at zp515
    rw [kv506] at zp515
    obtain ⟨razp515, rbzp515, rczp515, rdzp515, rezp515, rfzp515⟩ := id zp515
    have kzp515 := pN_ok (T := T) (lo := 1) (hi := 20) (g := (pRdF1 b T g))
    have al517 : pRdF2 b T g = (pNumb T 1 20 (pRdF1 b T g)) := by rfl
    have zp518 := zp515
    rw [← al517] at zp518
    rw [← al517] at kzp515
    obtain ⟨razp518, rbzp518, rczp518, rdzp518, rezp518, rfzp518⟩ := id zp518
    refine g_istore_n (l' := [(0, .ref 19), (1, .int v509)]) rfl rfl ?_
    refine g_aload_n rfl ?_
    refine g_iconst (by decide) (fun v519 kv519 => ?_)
    refine g_bipush (by decide) (fun v520 kv520 => ?_)
    refine g_invvi (rS_I hI (by omega)) sx_19 rfl rfl rfl rfl (f_48 v519 v520 H hI hJ y510 y511 y512 y513 y514 (by omega) hp0 zp518) (fun v523 H521 r522 => ?_)
    obtain ⟨y524, y525, y526, y527, y528, rfl, by524, zp529, zp530⟩ := r522
    rw [kv519] at zp529
    rw [kv520] at zp529
    obtain ⟨razp529, rbzp529, rczp529, rdzp529, rezp529, rfzp529⟩ := id zp529
    have kzp529 := pN_ok (T := T) (lo := 1) (hi := 20) (g := (pRdF2 b T g))
    have al531 : pRdF b T g = (pNumb T 1 20 (pRdF2 b T g)) := by rfl
    have zp532 := zp529
    rw [← al531] at zp532
    rw [← al531] at kzp529
    obtain ⟨razp532, rbzp532, rczp532, rdzp532, rezp532, rfzp532⟩ := id zp532
    refine g_istore_n (l' := [(0, .ref 19), (1, .int v509), (2, .int v523)]) rfl rfl ?_
    refine g_aload_n rfl ?_
    refine g_gfk (rS_I hI (by omega)) sx_19 rfl (rS_g5 hI) ?_
    refine g_if_ne (fun c533 => ?_) (fun c533 => ?_)
    · exact g_ret ⟨rfl, H, y524, y525, y526, y527, y528, rfl, hI, hJ, (by omega), zp532, hp0, (by unfold bRdF; rw [if_neg (by omega)]; exact hp2), (fun _ _ => rfl)⟩
    · refine g_aload_n rfl ?_
      refine g_gfr (rS_I hI (by omega)) sx_19 rfl ?_
      refine g_iload_n rfl ?_
      refine g_pfi (rS_I hI (by omega)) sx_11 rfl (gz_any _) (fun H534 eH534 hIH534 => ?_)
      obtain ⟨B535, eB535⟩ : ∃ z, z = sF H 11 10 v509 := ⟨_, rfl⟩
      obtain rfl : H534 = (rS B535 y524 y525 y526 y527 y528) := by rw [eH534, eB535]; exact rS_cF (by decide)
      have hIB535 : gI SX B535 := by rw [eB535]; exact gI_sF hI sx_11 rfl (gz_any _)
      have hJB535 : JX B535 := JX_sF eB535 hJ
      refine g_aload_n rfl ?_
      refine g_gfr (rS_I hIB535 (by omega)) sx_19 rfl ?_
      refine g_iload_n rfl ?_
      refine g_pfi (rS_I hIB535 (by omega)) sx_11 rfl (gz_any _) (fun H536 eH536 hIH536 => ?_)
      obtain ⟨B537, eB537⟩ : ∃ z, z = sF B535 11 11 v523 := ⟨_, rfl⟩
      obtain rfl : H536 = (rS B537 y524 y525 y526 y527 y528) := by rw [eH536, eB537]; exact rS_cF (by decide)
      have hIB537 : gI SX B537 := by rw [eB537]; exact gI_sF hIB535 sx_11 rfl (gz_any _)
      have hJB537 : JX B537 := JX_sF eB537 hJB535
      refine g_aload_n rfl ?_
      refine g_gfr (rS_I hIB537 (by omega)) sx_19 rfl ?_
      refine g_iconst (by decide) (fun v538 kv538 => ?_)
      refine g_pfz (rS_I hIB537 (by omega)) sx_11 rfl (by omega) (fun H539 eH539 hIH539 => ?_)
      obtain ⟨B540, eB540⟩ : ∃ z, z = sF B537 11 12 v538 := ⟨_, rfl⟩
      obtain rfl : H539 = (rS B540 y524 y525 y526 y527 y528) := by rw [eH539, eB540]; exact rS_cF (by decide)
      have hIB540 : gI SX B540 := by rw [eB540]; exact gI_sF hIB537 sx_11 rfl (by omega)
      have hJB540 : JX B540 := JX_sF eB540 hJB537
      refine g_nop ?_
      exact g_ret ⟨rfl, B540, y524, y525, y526, y527, y528, rfl, hIB540, hJB540, (by omega), zp532, (tk_fr hp0 (frD_f eB535 eB537 eB540)), (by unfold bRdF; rw [if_pos (by omega)]; rw [← zp516, ← zp530]; exact bft_mk hI hIB535 hIB537 hp2 eB535 eB537 eB540 (by omega)), (frD_f eB535 eB537 eB540)⟩
set_option maxRecDepth 4000 in
set_option maxHeartbeats 4000000 in
/-- X4.readMessage, exactly -/
theorem f_45 (H : mzH) (hI : gI SX H) (hJ : JX H) (x0 x1 x2 x3 x4 : Int32) (hx0 : 0 ≤ x0.toInt ∧ x0.toInt ≤ 900) {T : pT} {g : pG} {b : pB} (hp0 : tkH H T) (hp1 : rdX T g x0 x1 x2 x3 x4) (hp2 : bkX H 11 b) : gCall 45 [.ref 19] (rS H x0 x1 x2 x3 x4) (gRv (fun H' => ∃ B : mzH, ∃ y0 y1 y2 y3 y4 : Int32, H' = rS B y0 y1 y2 y3 y4 ∧ gI SX B ∧ JX B ∧ (0 ≤ y0.toInt ∧ y0.toInt ≤ 900) ∧ rdX T (pM6 b T g) y0 y1 y2 y3 y4 ∧ tkH B T ∧ bkX B 11 (bMg b T g) ∧ frD H B)) := by
  obtain ⟨r0, r1, r2, r3, r4, r5⟩ := id hp1
  have w0 := hp0.2
  have w1 := hp2.2.2.1
  have w2 := fZ_of hI sx_11 (f := 9) rfl
  refine gG_call [(0, .ref 19)] ⟨rfl, trivial⟩ ?_
  show gG 6 zB_45 (mzBlk zB_45 0) [(0, .ref 19)] [] (rS H x0 x1 x2 x3 x4) 0 0 _
  refine g_aload_n rfl ?_
  refine g_gfr (rS_I hI (by omega)) sx_19 rfl ?_
  refine g_gfi (rS_I hI (by omega)) sx_11 rfl (fun v949 ev949 lv949 uv949 => ?_)
  have iv949 : v949.toInt = (fZ H 11 9).toInt := by rw [ev949, ← rS_o (by decide)]
  refine g_bipush (by decide) (fun v950 kv950 => ?_)
  refine g_if2_ne (fun c951 => ?_) (fun c951 => ?_)
  · refine g_aload_n rfl ?_
    refine g_iconst (by decide) (fun v952 kv952 => ?_)
    refine g_iconst (by decide) (fun v953 kv953 => ?_)
    refine g_invvi (rS_I hI (by omega)) sx_19 rfl rfl rfl rfl (f_50 v952 v953 H hI hJ x0 x1 x2 x3 x4 (by omega) hp0 hp1) (fun v956 H954 r955 => ?_)
    obtain ⟨y957, y958, y959, y960, y961, rfl, by957, zp962, zp963⟩ := r955
    rw [kv952] at zp962
    rw [kv952] at zp963
    rw [kv953] at zp962
    rw [kv953] at zp963
    obtain ⟨razp962, rbzp962, rczp962, rdzp962, rezp962, rfzp962⟩ := id zp962
    have al964 : pM1 b T g = (pTake T 3 3 g) := by unfold pM1; first | rw [if_pos (by omega)] | rw [if_neg (by omega)]
    have zp965 := zp962
    rw [← al964] at zp965
    rw [← al964] at zp963
    obtain ⟨razp965, rbzp965, rczp965, rdzp965, rezp965, rfzp965⟩ := id zp965
    refine g_pop rfl ?_
    refine g_aload_n rfl ?_
    refine g_iconst (by decide) (fun v966 kv966 => ?_)
    refine g_sipush (by decide) (fun v967 kv967 => ?_)
    refine g_invvi (rS_I hI (by omega)) sx_19 rfl rfl rfl rfl (f_48 v966 v967 H hI hJ y957 y958 y959 y960 y961 (by omega) hp0 zp965) (fun v970 H968 r969 => ?_)
    obtain ⟨y971, y972, y973, y974, y975, rfl, by971, zp976, zp977⟩ := r969
    rw [kv966] at zp976
    rw [kv967] at zp976
    obtain ⟨razp976, rbzp976, rczp976, rdzp976, rezp976, rfzp976⟩ := id zp976
    have kzp976 := pN_ok (T := T) (lo := 0) (hi := 999) (g := (pM1 b T g))
    have al978 : pM2 b T g = (pNumb T 0 999 (pM1 b T g)) := by rfl
    have zp979 := zp976
    rw [← al978] at zp979
    rw [← al978] at kzp976
    obtain ⟨razp979, rbzp979, rczp979, rdzp979, rezp979, rfzp979⟩ := id zp979
    refine g_istore_n (l' := [(0, .ref 19), (1, .int v970)]) rfl rfl ?_
    refine g_aload_n rfl ?_
    refine g_invvi (rS_I hI (by omega)) sx_19 rfl rfl rfl rfl (f_46 H hI hJ y971 y972 y973 y974 y975 (by omega) hp0 zp979) (fun v982 H980 r981 => ?_)
    obtain ⟨y983, y984, y985, y986, y987, rfl, bv982, by983, zp988, zp989⟩ := r981
    obtain ⟨razp988, rbzp988, rczp988, rdzp988, rezp988, rfzp988⟩ := id zp988
    have kzp988 := pA_ok (T := T) (g := (pM2 b T g))
    have al990 : pM3 b T g = (pAct T (pM2 b T g)) := by rfl
    have zp991 := zp988
    rw [← al990] at zp991
    rw [← al990] at kzp988
    obtain ⟨razp991, rbzp991, rczp991, rdzp991, rezp991, rfzp991⟩ := id zp991
    refine g_istore_n (l' := [(0, .ref 19), (1, .int v970), (2, .int v982)]) rfl rfl ?_
    refine g_aload_n rfl ?_
    refine g_iconst (by decide) (fun v992 kv992 => ?_)
    refine g_bipush (by decide) (fun v993 kv993 => ?_)
    refine g_invvi (rS_I hI (by omega)) sx_19 rfl rfl rfl rfl (f_48 v992 v993 H hI hJ y983 y984 y985 y986 y987 (by omega) hp0 zp991) (fun v996 H994 r995 => ?_)
    obtain ⟨y997, y998, y999, y1000, y1001, rfl, by997, zp1002, zp1003⟩ := r995
    rw [kv992] at zp1002
    rw [kv993] at zp1002
    obtain ⟨razp1002, rbzp1002, rczp1002, rdzp1002, rezp1002, rfzp1002⟩ := id zp1002
    have kzp1002 := pN_ok (T := T) (lo := 0) (hi := 39) (g := (pM3 b T g))
    have al1004 : pM4 b T g = (pNumb T 0 39 (pM3 b T g)) := by rfl
    have zp1005 := zp1002
    rw [← al1004] at zp1005
    rw [← al1004] at kzp1002
    obtain ⟨razp1005, rbzp1005, rczp1005, rdzp1005, rezp1005, rfzp1005⟩ := id zp1005
    refine g_istore_n (l' := [(0, .ref 19), (1, .int v970), (2, .int v982), (3, .int v996)]) rfl rfl ?_
    refine g_iconst (by decide) (fun v1006 kv1006 => ?_)
    refine g_istore (l' := [(0, .ref 19), (1, .int v970), (2, .int v982), (3, .int v996), (4, .int v1006)]) rfl rfl ?_
    refine g_iload_n rfl ?_
    refine g_if_ne (fun c1007 => ?_) (fun c1007 => ?_)
    · have al1008 : pM5 b T g = (pM4 b T g) := by unfold pM5; first | rw [if_pos (by omega)] | rw [if_neg (by omega)]
      have zp1009 := zp1005
      rw [← al1008] at zp1009
      obtain ⟨razp1009, rbzp1009, rczp1009, rdzp1009, rezp1009, rfzp1009⟩ := id zp1009
      refine g_aload_n rfl ?_
      refine g_iload_n rfl ?_
      refine g_invvi (rS_I hI (by omega)) sx_19 rfl rfl rfl rfl (f_47 v982 (by omega) H hI hJ y997 y998 y999 y1000 y1001 (by omega) hp0 zp1009 hp2) (fun v1012 H1010 r1011 => ?_)
      obtain ⟨y1013, y1014, y1015, y1016, y1017, rfl, by1013, zp1018, zp1019, zp1020⟩ := r1011
      obtain ⟨razp1018, rbzp1018, rczp1018, rdzp1018, rezp1018, rfzp1018⟩ := id zp1018
      have al1021 : pM6 b T g = (pSec b T v982.toInt (pM5 b T g)) := by unfold pM6; rw [← zp989]
      have zp1022 := zp1018
      rw [← al1021] at zp1022
      rw [← al1021] at zp1020
      obtain ⟨razp1022, rbzp1022, rczp1022, rdzp1022, rezp1022, rfzp1022⟩ := id zp1022
      refine g_istore (l' := [(0, .ref 19), (1, .int v970), (2, .int v982), (3, .int v996), (4, .int v1006), (5, .int v1012)]) rfl rfl ?_
      refine g_aload_n rfl ?_
      refine g_gfk (rS_I hI (by omega)) sx_19 rfl (rS_g5 hI) ?_
      refine g_if_ne (fun c1023 => ?_) (fun c1023 => ?_)
      · exact g_ret ⟨rfl, H, y1013, y1014, y1015, y1016, y1017, rfl, hI, hJ, (by omega), zp1022, hp0, (by unfold bMg; rw [if_neg (by omega)]; exact hp2), (fun _ _ => rfl)⟩
      · refine g_aload_n rfl ?_
        refine g_gfr (rS_I hI (by omega)) sx_19 rfl ?_
        refine g_iload_n rfl ?_
        refine g_iload_n rfl ?_
        refine g_iload_n rfl ?_
        refine g_iload rfl ?_
        refine g_iload rfl ?_
        refine g_invvv (rS_I hI (by omega)) sx_11 rfl rfl rfl rfl (f_16 v970 v982 v996 (by omega) v1012 (by omega) v1006 H hI hJ y1013 y1014 y1015 y1016 y1017 (by omega) hp2 (by omega) (by omega)) (fun H1024 r1025 => ?_)
        obtain ⟨B1028, rfl, hIB1028, hJB1028, zp1026, zp1027⟩ := r1025
        have knzp1027 : v1006.toInt = pKn b T g := by unfold pKn; first | (rw [if_pos (by omega)]; omega) | (rw [if_neg (by omega)]; omega)
        refine g_nop ?_
        exact g_ret ⟨rfl, B1028, y1013, y1014, y1015, y1016, y1017, rfl, hIB1028, hJB1028, (by omega), zp1022, (tk_fr hp0 zp1026), (by unfold bMg; rw [if_pos (by omega)]; rw [zp1019, zp977, zp989, zp1003, knzp1027] at zp1027; exact zp1027), zp1026⟩
    · refine g_iconst (by decide) (fun v1029 kv1029 => ?_)
      refine g_aload_n rfl ?_
      refine g_iconst (by decide) (fun v1030 kv1030 => ?_)
      refine g_bipush (by decide) (fun v1031 kv1031 => ?_)
      refine g_invvi (rS_I hI (by omega)) sx_19 rfl rfl rfl rfl (f_50 v1030 v1031 H hI hJ y997 y998 y999 y1000 y1001 (by omega) hp0 zp1005) (fun v1034 H1032 r1033 => ?_)
      obtain ⟨y1035, y1036, y1037, y1038, y1039, rfl, by1035, zp1040, zp1041⟩ := r1033
      rw [kv1030] at zp1040
      rw [kv1030] at zp1041
      rw [kv1031] at zp1040
      rw [kv1031] at zp1041
      obtain ⟨razp1040, rbzp1040, rczp1040, rdzp1040, rezp1040, rfzp1040⟩ := id zp1040
      refine g_iadd (by omega) (fun v1042 ev1042 => ?_)
      refine g_iconst (by decide) (fun v1043 kv1043 => ?_)
      refine g_isub (by omega) (fun v1044 ev1044 => ?_)
      refine g_istore (l' := [(0, .ref 19), (1, .int v970), (2, .int v982), (3, .int v996), (4, .int v1044)]) rfl rfl ?_
      refine g_nop ?_
      have al1045 : pM5 b T g = (pTake T 5 7 (pM4 b T g)) := by unfold pM5; first | rw [if_pos (by omega)] | rw [if_neg (by omega)]
      have zp1046 := zp1040
      rw [← al1045] at zp1046
      rw [← al1045] at zp1041
      obtain ⟨razp1046, rbzp1046, rczp1046, rdzp1046, rezp1046, rfzp1046⟩ := id zp1046
      refine g_aload_n rfl ?_
      refine g_iload_n rfl ?_
      refine g_invvi (rS_I hI (by omega)) sx_19 rfl rfl rfl rfl (f_47 v982 (by omega) H hI hJ y1035 y1036 y1037 y1038 y1039 (by omega) hp0 zp1046 hp2) (fun v1049 H1047 r1048 => ?_)
      obtain ⟨y1050, y1051, y1052, y1053, y1054, rfl, by1050, zp1055, zp1056, zp1057⟩ := r1048
      obtain ⟨razp1055, rbzp1055, rczp1055, rdzp1055, rezp1055, rfzp1055⟩ := id zp1055
      have al1058 : pM6 b T g = (pSec b T v982.toInt (pM5 b T g)) := by unfold pM6; rw [← zp989]
      have zp1059 := zp1055
      rw [← al1058] at zp1059
      rw [← al1058] at zp1057
      obtain ⟨razp1059, rbzp1059, rczp1059, rdzp1059, rezp1059, rfzp1059⟩ := id zp1059
      refine g_istore (l' := [(0, .ref 19), (1, .int v970), (2, .int v982), (3, .int v996), (4, .int v1044), (5, .int v1049)]) rfl rfl ?_
      refine g_aload_n rfl ?_
      refine g_gfk (rS_I hI (by omega)) sx_19 rfl (rS_g5 hI) ?_
      refine g_if_ne (fun c1060 => ?_) (fun c1060 => ?_)
      · exact g_ret ⟨rfl, H, y1050, y1051, y1052, y1053, y1054, rfl, hI, hJ, (by omega), zp1059, hp0, (by unfold bMg; rw [if_neg (by omega)]; exact hp2), (fun _ _ => rfl)⟩
      · refine g_aload_n rfl ?_
        refine g_gfr (rS_I hI (by omega)) sx_19 rfl ?_
        refine g_iload_n rfl ?_
        refine g_iload_n rfl ?_
        refine g_iload_n rfl ?_
        refine g_iload rfl ?_
        refine g_iload rfl ?_
        refine g_invvv (rS_I hI (by omega)) sx_11 rfl rfl rfl rfl (f_16 v970 v982 v996 (by omega) v1049 (by omega) v1044 H hI hJ y1050 y1051 y1052 y1053 y1054 (by omega) hp2 (by omega) (by omega)) (fun H1061 r1062 => ?_)
        obtain ⟨B1065, rfl, hIB1065, hJB1065, zp1063, zp1064⟩ := r1062
        have knzp1064 : v1044.toInt = pKn b T g := by unfold pKn; first | (rw [if_pos (by omega)]; omega) | (rw [if_neg (by omega)]; omega)
        refine g_nop ?_
        exact g_ret ⟨rfl, B1065, y1050, y1051, y1052, y1053, y1054, rfl, hIB1065, hJB1065, (by omega), zp1059, (tk_fr hp0 zp1063), (by unfold bMg; rw [if_pos (by omega)]; rw [zp1056, zp977, zp989, zp1003, knzp1064] at zp1064; exact zp1064), zp1063⟩
  · refine g_aload_n rfl ?_
    refine g_iconst (by decide) (fun v1066 kv1066 => ?_)
    refine g_invvv (rS_I hI (by omega)) sx_19 rfl rfl rfl rfl (f_40 v1066 (by omega) H hI hJ x0 x1 x2 x3 x4 (by omega) hp0 hp1) (fun H1067 r1068 => ?_)
    obtain ⟨y1069, y1070, rfl, zp1071⟩ := r1068
    rw [kv1066] at zp1071
    obtain ⟨razp1071, rbzp1071, rczp1071, rdzp1071, rezp1071, rfzp1071⟩ := id zp1071
    have nzp1071 := pF_ne (T := T) (g := g) (n := 2) (by omega)
    refine g_nop ?_
    refine g_aload_n rfl ?_
    refine g_iconst (by decide) (fun v1072 kv1072 => ?_)
    refine g_iconst (by decide) (fun v1073 kv1073 => ?_)
    refine g_invvi (rS_I hI (by omega)) sx_19 rfl rfl rfl rfl (f_50 v1072 v1073 H hI hJ x0 x1 x2 y1069 y1070 (by omega) hp0 zp1071) (fun v1076 H1074 r1075 => ?_)
    obtain ⟨y1077, y1078, y1079, y1080, y1081, rfl, by1077, zp1082, zp1083⟩ := r1075
    rw [kv1072] at zp1082
    rw [kv1072] at zp1083
    rw [kv1073] at zp1082
    rw [kv1073] at zp1083
    obtain ⟨razp1082, rbzp1082, rczp1082, rdzp1082, rezp1082, rfzp1082⟩ := id zp1082
    have al1084 : pM1 b T g = (pTake T 3 3 (pFail T 2 g)) := by unfold pM1; first | rw [if_pos (by omega)] | rw [if_neg (by omega)]
    have zp1085 := zp1082
    rw [← al1084] at zp1085
    rw [← al1084] at zp1083
    obtain ⟨razp1085, rbzp1085, rczp1085, rdzp1085, rezp1085, rfzp1085⟩ := id zp1085
    refine g_pop rfl ?_
    refine g_aload_n rfl ?_
    refine g_iconst (by decide) (fun v1086 kv1086 => ?_)
    refine g_sipush (by decide) (fun v1087 kv1087 => ?_)
    refine g_invvi (rS_I hI (by omega)) sx_19 rfl rfl rfl rfl (f_48 v1086 v1087 H hI hJ y1077 y1078 y1079 y1080 y1081 (by omega) hp0 zp1085) (fun v1090 H1088 r1089 => ?_)
    obtain ⟨y1091, y1092, y1093, y1094, y1095, rfl, by1091, zp1096, zp1097⟩ := r1089
    rw [kv1086] at zp1096
    rw [kv1087] at zp1096
    obtain ⟨razp1096, rbzp1096, rczp1096, rdzp1096, rezp1096, rfzp1096⟩ := id zp1096
    have kzp1096 := pN_ok (T := T) (lo := 0) (hi := 999) (g := (pM1 b T g))
    have al1098 : pM2 b T g = (pNumb T 0 999 (pM1 b T g)) := by rfl
    have zp1099 := zp1096
    rw [← al1098] at zp1099
    rw [← al1098] at kzp1096
    obtain ⟨razp1099, rbzp1099, rczp1099, rdzp1099, rezp1099, rfzp1099⟩ := id zp1099
    refine g_istore_n (l' := [(0, .ref 19), (1, .int v1090)]) rfl rfl ?_
    refine g_aload_n rfl ?_
    refine g_invvi (rS_I hI (by omega)) sx_19 rfl rfl rfl rfl (f_46 H hI hJ y1091 y1092 y1093 y1094 y1095 (by omega) hp0 zp1099) (fun v1102 H1100 r1101 => ?_)
    obtain ⟨y1103, y1104, y1105, y1106, y1107, rfl, bv1102, by1103, zp1108, zp1109⟩ := r1101
    obtain ⟨razp1108, rbzp1108, rczp1108, rdzp1108, rezp1108, rfzp1108⟩ := id zp1108
    have kzp1108 := pA_ok (T := T) (g := (pM2 b T g))
    have al1110 : pM3 b T g = (pAct T (pM2 b T g)) := by rfl
    have zp1111 := zp1108
    rw [← al1110] at zp1111
    rw [← al1110] at kzp1108
    obtain ⟨razp1111, rbzp1111, rczp1111, rdzp1111, rezp1111, rfzp1111⟩ := id zp1111
    refine g_istore_n (l' := [(0, .ref 19), (1, .int v1090), (2, .int v1102)]) rfl rfl ?_
    refine g_aload_n rfl ?_
    refine g_iconst (by decide) (fun v1112 kv1112 => ?_)
    refine g_bipush (by decide) (fun v1113 kv1113 => ?_)
    refine g_invvi (rS_I hI (by omega)) sx_19 rfl rfl rfl rfl (f_48 v1112 v1113 H hI hJ y1103 y1104 y1105 y1106 y1107 (by omega) hp0 zp1111) (fun v1116 H1114 r1115 => ?_)
    obtain ⟨y1117, y1118, y1119, y1120, y1121, rfl, by1117, zp1122, zp1123⟩ := r1115
    rw [kv1112] at zp1122
    rw [kv1113] at zp1122
    obtain ⟨razp1122, rbzp1122, rczp1122, rdzp1122, rezp1122, rfzp1122⟩ := id zp1122
    have kzp1122 := pN_ok (T := T) (lo := 0) (hi := 39) (g := (pM3 b T g))
    have al1124 : pM4 b T g = (pNumb T 0 39 (pM3 b T g)) := by rfl
    have zp1125 := zp1122
    rw [← al1124] at zp1125
    rw [← al1124] at kzp1122
    obtain ⟨razp1125, rbzp1125, rczp1125, rdzp1125, rezp1125, rfzp1125⟩ := id zp1125
    refine g_istore_n (l' := [(0, .ref 19), (1, .int v1090), (2, .int v1102), (3, .int v1116)]) rfl rfl ?_
    refine g_iconst (by decide) (fun v1126 kv1126 => ?_)
    refine g_istore (l' := [(0, .ref 19), (1, .int v1090), (2, .int v1102), (3, .int v1116), (4, .int v1126)]) rfl rfl ?_
    refine g_iload_n rfl ?_
    refine g_if_ne (fun c1127 => ?_) (fun c1127 => ?_)
    · have al1128 : pM5 b T g = (pM4 b T g) := by unfold pM5; first | rw [if_pos (by omega)] | rw [if_neg (by omega)]
      have zp1129 := zp1125
      rw [← al1128] at zp1129
      obtain ⟨razp1129, rbzp1129, rczp1129, rdzp1129, rezp1129, rfzp1129⟩ := id zp1129
      refine g_aload_n rfl ?_
      refine g_iload_n rfl ?_
      refine g_invvi (rS_I hI (by omega)) sx_19 rfl rfl rfl rfl (f_47 v1102 (by omega) H hI hJ y1117 y1118 y1119 y1120 y1121 (by omega) hp0 zp1129 hp2) (fun v1132 H1130 r1131 => ?_)
      obtain ⟨y1133, y1134, y1135, y1136, y1137, rfl, by1133, zp1138, zp1139, zp1140⟩ := r1131
      obtain ⟨razp1138, rbzp1138, rczp1138, rdzp1138, rezp1138, rfzp1138⟩ := id zp1138
      have al1141 : pM6 b T g = (pSec b T v1102.toInt (pM5 b T g)) := by unfold pM6; rw [← zp1109]
      have zp1142 := zp1138
      rw [← al1141] at zp1142
      rw [← al1141] at zp1140
      obtain ⟨razp1142, rbzp1142, rczp1142, rdzp1142, rezp1142, rfzp1142⟩ := id zp1142
      refine g_istore (l' := [(0, .ref 19), (1, .int v1090), (2, .int v1102), (3, .int v1116), (4, .int v1126), (5, .int v1132)]) rfl rfl ?_
      refine g_aload_n rfl ?_
      refine g_gfk (rS_I hI (by omega)) sx_19 rfl (rS_g5 hI) ?_
      refine g_if_ne (fun c1143 => ?_) (fun c1143 => ?_)
      · exact g_ret ⟨rfl, H, y1133, y1134, y1135, y1136, y1137, rfl, hI, hJ, (by omega), zp1142, hp0, (by unfold bMg; rw [if_neg (by omega)]; exact hp2), (fun _ _ => rfl)⟩
      · refine g_aload_n rfl ?_
        refine g_gfr (rS_I hI (by omega)) sx_19 rfl ?_
        refine g_iload_n rfl ?_
        refine g_iload_n rfl ?_
        refine g_iload_n rfl ?_
        refine g_iload rfl ?_
        refine g_iload rfl ?_
        refine g_invvv (rS_I hI (by omega)) sx_11 rfl rfl rfl rfl (f_16 v1090 v1102 v1116 (by omega) v1132 (by omega) v1126 H hI hJ y1133 y1134 y1135 y1136 y1137 (by omega) hp2 (by omega) (by omega)) (fun H1144 r1145 => ?_)
        obtain ⟨B1148, rfl, hIB1148, hJB1148, zp1146, zp1147⟩ := r1145
        have knzp1147 : v1126.toInt = pKn b T g := by unfold pKn; first | (rw [if_pos (by omega)]; omega) | (rw [if_neg (by omega)]; omega)
        refine g_nop ?_
        exact g_ret ⟨rfl, B1148, y1133, y1134, y1135, y1136, y1137, rfl, hIB1148, hJB1148, (by omega), zp1142, (tk_fr hp0 zp1146), (by unfold bMg; rw [if_pos (by omega)]; rw [zp1139, zp1097, zp1109, zp1123, knzp1147] at zp1147; exact zp1147), zp1146⟩
    · refine g_iconst (by decide) (fun v1149 kv1149 => ?_)
      refine g_aload_n rfl ?_
      refine g_iconst (by decide) (fun v1150 kv1150 => ?_)
      refine g_bipush (by decide) (fun v1151 kv1151 => ?_)
      refine g_invvi (rS_I hI (by omega)) sx_19 rfl rfl rfl rfl (f_50 v1150 v1151 H hI hJ y1117 y1118 y1119 y1120 y1121 (by omega) hp0 zp1125) (fun v1154 H1152 r1153 => ?_)
      obtain ⟨y1155, y1156, y1157, y1158, y1159, rfl, by1155, zp1160, zp1161⟩ := r1153
      rw [kv1150] at zp1160
      rw [kv1150] at zp1161
      rw [kv1151] at zp1160
      rw [kv1151] at zp1161
      obtain ⟨razp1160, rbzp1160, rczp1160, rdzp1160, rezp1160, rfzp1160⟩ := id zp1160
      refine g_iadd (by omega) (fun v1162 ev1162 => ?_)
      refine g_iconst (by decide) (fun v1163 kv1163 => ?_)
      refine g_isub (by omega) (fun v1164 ev1164 => ?_)
      refine g_istore (l' := [(0, .ref 19), (1, .int v1090), (2, .int v1102), (3, .int v1116), (4, .int v1164)]) rfl rfl ?_
      refine g_nop ?_
      have al1165 : pM5 b T g = (pTake T 5 7 (pM4 b T g)) := by unfold pM5; first | rw [if_pos (by omega)] | rw [if_neg (by omega)]
      have zp1166 := zp1160
      rw [← al1165] at zp1166
      rw [← al1165] at zp1161
      obtain ⟨razp1166, rbzp1166, rczp1166, rdzp1166, rezp1166, rfzp1166⟩ := id zp1166
      refine g_aload_n rfl ?_
      refine g_iload_n rfl ?_
      refine g_invvi (rS_I hI (by omega)) sx_19 rfl rfl rfl rfl (f_47 v1102 (by omega) H hI hJ y1155 y1156 y1157 y1158 y1159 (by omega) hp0 zp1166 hp2) (fun v1169 H1167 r1168 => ?_)
      obtain ⟨y1170, y1171, y1172, y1173, y1174, rfl, by1170, zp1175, zp1176, zp1177⟩ := r1168
      obtain ⟨razp1175, rbzp1175, rczp1175, rdzp1175, rezp1175, rfzp1175⟩ := id zp1175
      have al1178 : pM6 b T g = (pSec b T v1102.toInt (pM5 b T g)) := by unfold pM6; rw [← zp1109]
      have zp1179 := zp1175
      rw [← al1178] at zp1179
      rw [← al1178] at zp1177
      obtain ⟨razp1179, rbzp1179, rczp1179, rdzp1179, rezp1179, rfzp1179⟩ := id zp1179
      refine g_istore (l' := [(0, .ref 19), (1, .int v1090), (2, .int v1102), (3, .int v1116), (4, .int v1164), (5, .int v1169)]) rfl rfl ?_
      refine g_aload_n rfl ?_
      refine g_gfk (rS_I hI (by omega)) sx_19 rfl (rS_g5 hI) ?_
      refine g_if_ne (fun c1180 => ?_) (fun c1180 => ?_)
      · exact g_ret ⟨rfl, H, y1170, y1171, y1172, y1173, y1174, rfl, hI, hJ, (by omega), zp1179, hp0, (by unfold bMg; rw [if_neg (by omega)]; exact hp2), (fun _ _ => rfl)⟩
      · refine g_aload_n rfl ?_
        refine g_gfr (rS_I hI (by omega)) sx_19 rfl ?_
        refine g_iload_n rfl ?_
        refine g_iload_n rfl ?_
        refine g_iload_n rfl ?_
        refine g_iload rfl ?_
        refine g_iload rfl ?_
        refine g_invvv (rS_I hI (by omega)) sx_11 rfl rfl rfl rfl (f_16 v1090 v1102 v1116 (by omega) v1169 (by omega) v1164 H hI hJ y1170 y1171 y1172 y1173 y1174 (by omega) hp2 (by omega) (by omega)) (fun H1181 r1182 => ?_)
        obtain ⟨B1185, rfl, hIB1185, hJB1185, zp1183, zp1184⟩ := r1182
        have knzp1184 : v1164.toInt = pKn b T g := by unfold pKn; first | (rw [if_pos (by omega)]; omega) | (rw [if_neg (by omega)]; omega)
        refine g_nop ?_
        exact g_ret ⟨rfl, B1185, y1170, y1171, y1172, y1173, y1174, rfl, hIB1185, hJB1185, (by omega), zp1179, (tk_fr hp0 zp1183), (by unfold bMg; rw [if_pos (by omega)]; rw [zp1176, zp1097, zp1109, zp1123, knzp1184] at zp1184; exact zp1184), zp1183⟩
set_option maxRecDepth 4000 in
set_option maxHeartbeats 4000000 in
/-- X4.readLine, exactly -/
theorem f_41 (H : mzH) (hI : gI SX H) (hJ : JX H) (x0 x1 x2 x3 x4 : Int32) (hx0 : 0 ≤ x0.toInt ∧ x0.toInt ≤ 900) {T : pT} {g : pG} {b : pB} (hp0 : tkH H T) (hp1 : rdX T g x0 x1 x2 x3 x4) (hp2 : bkX H 11 b) : gCall 41 [.ref 19] (rS H x0 x1 x2 x3 x4) (gRv (fun H' => ∃ B : mzH, ∃ y0 y1 y2 y3 y4 : Int32, H' = rS B y0 y1 y2 y3 y4 ∧ gI SX B ∧ JX B ∧ (0 ≤ y0.toInt ∧ y0.toInt ≤ 900) ∧ rdX T (pLn b T g) y0 y1 y2 y3 y4 ∧ tkH B T ∧ bkX B 11 (bLn b T g) ∧ frD H B)) := by
  obtain ⟨r0, r1, r2, r3, r4, r5⟩ := id hp1
  have w0 := hp0.2
  refine gG_call [(0, .ref 19)] ⟨rfl, trivial⟩ ?_
  show gG 1 zB_41 (mzBlk zB_41 0) [(0, .ref 19)] [] (rS H x0 x1 x2 x3 x4) 0 0 _
  refine g_aload_n rfl ?_
  refine g_gfk (rS_I hI (by omega)) sx_19 rfl (rS_g3 hI) ?_
  refine g_sw (by decide) (fun c541 => ?_) ⟨fun c541 => ?_, fun c541 => ?_, fun c541 => ?_, fun c541 => ?_, trivial⟩
  · refine g_aload_n rfl ?_
    refine g_iconst (by decide) (fun v542 kv542 => ?_)
    refine g_invvv (rS_I hI (by omega)) sx_19 rfl rfl rfl rfl (f_40 v542 (by omega) H hI hJ x0 x1 x2 x3 x4 (by omega) hp0 hp1) (fun H543 r544 => ?_)
    obtain ⟨y545, y546, rfl, zp547⟩ := r544
    rw [kv542] at zp547
    obtain ⟨razp547, rbzp547, rczp547, rdzp547, rezp547, rfzp547⟩ := id zp547
    have nzp547 := pF_ne (T := T) (g := g) (n := 1) (by omega)
    have al548 : pLn1 b T g = (pFail T 1 g) := by unfold pLn1; first | rw [if_pos (by omega)] | rw [if_neg (by omega), if_pos (by omega)] | rw [if_neg (by omega), if_neg (by omega), if_pos (by omega)] | rw [if_neg (by omega), if_neg (by omega), if_neg (by omega), if_pos (by omega)] | rw [if_neg (by omega), if_neg (by omega), if_neg (by omega), if_neg (by omega)]
    have zp549 := zp547
    rw [← al548] at zp549
    obtain ⟨razp549, rbzp549, rczp549, rdzp549, rezp549, rfzp549⟩ := id zp549
    refine g_nop ?_
    refine g_aload_n rfl ?_
    refine g_bipush (by decide) (fun v550 kv550 => ?_)
    refine g_bipush (by decide) (fun v551 kv551 => ?_)
    refine g_invvi (rS_I hI (by omega)) sx_19 rfl rfl rfl rfl (f_50 v550 v551 H hI hJ x0 x1 x2 y545 y546 (by omega) hp0 zp549) (fun v554 H552 r553 => ?_)
    obtain ⟨y555, y556, y557, y558, y559, rfl, by555, zp560, zp561⟩ := r553
    rw [kv550] at zp560
    rw [kv550] at zp561
    rw [kv551] at zp560
    rw [kv551] at zp561
    obtain ⟨razp560, rbzp560, rczp560, rdzp560, rezp560, rfzp560⟩ := id zp560
    have al562 : pLn b T g = (pTake T 20 20 (pLn1 b T g)) := by rfl
    have zp563 := zp560
    rw [← al562] at zp563
    rw [← al562] at zp561
    obtain ⟨razp563, rbzp563, rczp563, rdzp563, rezp563, rfzp563⟩ := id zp563
    refine g_pop rfl ?_
    exact g_ret ⟨rfl, H, y555, y556, y557, y558, y559, rfl, hI, hJ, (by omega), zp563, hp0, (by unfold bLn; (first | rw [if_pos (by omega)] | rw [if_neg (by omega), if_pos (by omega)] | rw [if_neg (by omega), if_neg (by omega), if_pos (by omega)] | rw [if_neg (by omega), if_neg (by omega), if_neg (by omega), if_pos (by omega)] | rw [if_neg (by omega), if_neg (by omega), if_neg (by omega), if_neg (by omega)]); exact hp2), (fun _ _ => rfl)⟩
  · refine g_aload_n rfl ?_
    refine g_invvv (rS_I hI (by omega)) sx_19 rfl rfl rfl rfl (f_42 H hI hJ x0 x1 x2 x3 x4 (by omega) hp0 hp1 hp2) (fun H564 r565 => ?_)
    obtain ⟨B575, y566, y567, y568, y569, y570, rfl, hIB575, hJB575, by566, zp571, zp572, zp573, zp574⟩ := r565
    obtain ⟨razp571, rbzp571, rczp571, rdzp571, rezp571, rfzp571⟩ := id zp571
    have al576 : pLn1 b T g = (pRdP b T g) := by unfold pLn1; first | rw [if_pos (by omega)] | rw [if_neg (by omega), if_pos (by omega)] | rw [if_neg (by omega), if_neg (by omega), if_pos (by omega)] | rw [if_neg (by omega), if_neg (by omega), if_neg (by omega), if_pos (by omega)] | rw [if_neg (by omega), if_neg (by omega), if_neg (by omega), if_neg (by omega)]
    have zp577 := zp571
    rw [← al576] at zp577
    obtain ⟨razp577, rbzp577, rczp577, rdzp577, rezp577, rfzp577⟩ := id zp577
    refine g_goto ?_
    refine g_aload_n rfl ?_
    refine g_bipush (by decide) (fun v578 kv578 => ?_)
    refine g_bipush (by decide) (fun v579 kv579 => ?_)
    refine g_invvi (rS_I hIB575 (by omega)) sx_19 rfl rfl rfl rfl (f_50 v578 v579 B575 hIB575 hJB575 y566 y567 y568 y569 y570 (by omega) zp572 zp577) (fun v582 H580 r581 => ?_)
    obtain ⟨y583, y584, y585, y586, y587, rfl, by583, zp588, zp589⟩ := r581
    rw [kv578] at zp588
    rw [kv578] at zp589
    rw [kv579] at zp588
    rw [kv579] at zp589
    obtain ⟨razp588, rbzp588, rczp588, rdzp588, rezp588, rfzp588⟩ := id zp588
    have al590 : pLn b T g = (pTake T 20 20 (pLn1 b T g)) := by rfl
    have zp591 := zp588
    rw [← al590] at zp591
    rw [← al590] at zp589
    obtain ⟨razp591, rbzp591, rczp591, rdzp591, rezp591, rfzp591⟩ := id zp591
    refine g_pop rfl ?_
    exact g_ret ⟨rfl, B575, y583, y584, y585, y586, y587, rfl, hIB575, hJB575, (by omega), zp591, zp572, (by unfold bLn; (first | rw [if_pos (by omega)] | rw [if_neg (by omega), if_pos (by omega)] | rw [if_neg (by omega), if_neg (by omega), if_pos (by omega)] | rw [if_neg (by omega), if_neg (by omega), if_neg (by omega), if_pos (by omega)] | rw [if_neg (by omega), if_neg (by omega), if_neg (by omega), if_neg (by omega)]); exact zp573), zp574⟩
  · refine g_aload_n rfl ?_
    refine g_invvv (rS_I hI (by omega)) sx_19 rfl rfl rfl rfl (f_43 H hI hJ x0 x1 x2 x3 x4 (by omega) hp0 hp1 hp2) (fun H592 r593 => ?_)
    obtain ⟨B603, y594, y595, y596, y597, y598, rfl, hIB603, hJB603, by594, zp599, zp600, zp601, zp602⟩ := r593
    obtain ⟨razp599, rbzp599, rczp599, rdzp599, rezp599, rfzp599⟩ := id zp599
    have al604 : pLn1 b T g = (pRdR b T g) := by unfold pLn1; first | rw [if_pos (by omega)] | rw [if_neg (by omega), if_pos (by omega)] | rw [if_neg (by omega), if_neg (by omega), if_pos (by omega)] | rw [if_neg (by omega), if_neg (by omega), if_neg (by omega), if_pos (by omega)] | rw [if_neg (by omega), if_neg (by omega), if_neg (by omega), if_neg (by omega)]
    have zp605 := zp599
    rw [← al604] at zp605
    obtain ⟨razp605, rbzp605, rczp605, rdzp605, rezp605, rfzp605⟩ := id zp605
    refine g_goto ?_
    refine g_aload_n rfl ?_
    refine g_bipush (by decide) (fun v606 kv606 => ?_)
    refine g_bipush (by decide) (fun v607 kv607 => ?_)
    refine g_invvi (rS_I hIB603 (by omega)) sx_19 rfl rfl rfl rfl (f_50 v606 v607 B603 hIB603 hJB603 y594 y595 y596 y597 y598 (by omega) zp600 zp605) (fun v610 H608 r609 => ?_)
    obtain ⟨y611, y612, y613, y614, y615, rfl, by611, zp616, zp617⟩ := r609
    rw [kv606] at zp616
    rw [kv606] at zp617
    rw [kv607] at zp616
    rw [kv607] at zp617
    obtain ⟨razp616, rbzp616, rczp616, rdzp616, rezp616, rfzp616⟩ := id zp616
    have al618 : pLn b T g = (pTake T 20 20 (pLn1 b T g)) := by rfl
    have zp619 := zp616
    rw [← al618] at zp619
    rw [← al618] at zp617
    obtain ⟨razp619, rbzp619, rczp619, rdzp619, rezp619, rfzp619⟩ := id zp619
    refine g_pop rfl ?_
    exact g_ret ⟨rfl, B603, y611, y612, y613, y614, y615, rfl, hIB603, hJB603, (by omega), zp619, zp600, (by unfold bLn; (first | rw [if_pos (by omega)] | rw [if_neg (by omega), if_pos (by omega)] | rw [if_neg (by omega), if_neg (by omega), if_pos (by omega)] | rw [if_neg (by omega), if_neg (by omega), if_neg (by omega), if_pos (by omega)] | rw [if_neg (by omega), if_neg (by omega), if_neg (by omega), if_neg (by omega)]); exact zp601), zp602⟩
  · refine g_aload_n rfl ?_
    refine g_invvv (rS_I hI (by omega)) sx_19 rfl rfl rfl rfl (f_44 H hI hJ x0 x1 x2 x3 x4 (by omega) hp0 hp1 hp2) (fun H620 r621 => ?_)
    obtain ⟨B631, y622, y623, y624, y625, y626, rfl, hIB631, hJB631, by622, zp627, zp628, zp629, zp630⟩ := r621
    obtain ⟨razp627, rbzp627, rczp627, rdzp627, rezp627, rfzp627⟩ := id zp627
    have al632 : pLn1 b T g = (pRdF b T g) := by unfold pLn1; first | rw [if_pos (by omega)] | rw [if_neg (by omega), if_pos (by omega)] | rw [if_neg (by omega), if_neg (by omega), if_pos (by omega)] | rw [if_neg (by omega), if_neg (by omega), if_neg (by omega), if_pos (by omega)] | rw [if_neg (by omega), if_neg (by omega), if_neg (by omega), if_neg (by omega)]
    have zp633 := zp627
    rw [← al632] at zp633
    obtain ⟨razp633, rbzp633, rczp633, rdzp633, rezp633, rfzp633⟩ := id zp633
    refine g_goto ?_
    refine g_aload_n rfl ?_
    refine g_bipush (by decide) (fun v634 kv634 => ?_)
    refine g_bipush (by decide) (fun v635 kv635 => ?_)
    refine g_invvi (rS_I hIB631 (by omega)) sx_19 rfl rfl rfl rfl (f_50 v634 v635 B631 hIB631 hJB631 y622 y623 y624 y625 y626 (by omega) zp628 zp633) (fun v638 H636 r637 => ?_)
    obtain ⟨y639, y640, y641, y642, y643, rfl, by639, zp644, zp645⟩ := r637
    rw [kv634] at zp644
    rw [kv634] at zp645
    rw [kv635] at zp644
    rw [kv635] at zp645
    obtain ⟨razp644, rbzp644, rczp644, rdzp644, rezp644, rfzp644⟩ := id zp644
    have al646 : pLn b T g = (pTake T 20 20 (pLn1 b T g)) := by rfl
    have zp647 := zp644
    rw [← al646] at zp647
    rw [← al646] at zp645
    obtain ⟨razp647, rbzp647, rczp647, rdzp647, rezp647, rfzp647⟩ := id zp647
    refine g_pop rfl ?_
    exact g_ret ⟨rfl, B631, y639, y640, y641, y642, y643, rfl, hIB631, hJB631, (by omega), zp647, zp628, (by unfold bLn; (first | rw [if_pos (by omega)] | rw [if_neg (by omega), if_pos (by omega)] | rw [if_neg (by omega), if_neg (by omega), if_pos (by omega)] | rw [if_neg (by omega), if_neg (by omega), if_neg (by omega), if_pos (by omega)] | rw [if_neg (by omega), if_neg (by omega), if_neg (by omega), if_neg (by omega)]); exact zp629), zp630⟩
  · refine g_aload_n rfl ?_
    refine g_invvv (rS_I hI (by omega)) sx_19 rfl rfl rfl rfl (f_45 H hI hJ x0 x1 x2 x3 x4 (by omega) hp0 hp1 hp2) (fun H648 r649 => ?_)
    obtain ⟨B659, y650, y651, y652, y653, y654, rfl, hIB659, hJB659, by650, zp655, zp656, zp657, zp658⟩ := r649
    obtain ⟨razp655, rbzp655, rczp655, rdzp655, rezp655, rfzp655⟩ := id zp655
    have al660 : pLn1 b T g = (pM6 b T g) := by unfold pLn1; first | rw [if_pos (by omega)] | rw [if_neg (by omega), if_pos (by omega)] | rw [if_neg (by omega), if_neg (by omega), if_pos (by omega)] | rw [if_neg (by omega), if_neg (by omega), if_neg (by omega), if_pos (by omega)] | rw [if_neg (by omega), if_neg (by omega), if_neg (by omega), if_neg (by omega)]
    have zp661 := zp655
    rw [← al660] at zp661
    obtain ⟨razp661, rbzp661, rczp661, rdzp661, rezp661, rfzp661⟩ := id zp661
    refine g_goto ?_
    refine g_aload_n rfl ?_
    refine g_bipush (by decide) (fun v662 kv662 => ?_)
    refine g_bipush (by decide) (fun v663 kv663 => ?_)
    refine g_invvi (rS_I hIB659 (by omega)) sx_19 rfl rfl rfl rfl (f_50 v662 v663 B659 hIB659 hJB659 y650 y651 y652 y653 y654 (by omega) zp656 zp661) (fun v666 H664 r665 => ?_)
    obtain ⟨y667, y668, y669, y670, y671, rfl, by667, zp672, zp673⟩ := r665
    rw [kv662] at zp672
    rw [kv662] at zp673
    rw [kv663] at zp672
    rw [kv663] at zp673
    obtain ⟨razp672, rbzp672, rczp672, rdzp672, rezp672, rfzp672⟩ := id zp672
    have al674 : pLn b T g = (pTake T 20 20 (pLn1 b T g)) := by rfl
    have zp675 := zp672
    rw [← al674] at zp675
    rw [← al674] at zp673
    obtain ⟨razp675, rbzp675, rczp675, rdzp675, rezp675, rfzp675⟩ := id zp675
    refine g_pop rfl ?_
    exact g_ret ⟨rfl, B659, y667, y668, y669, y670, y671, rfl, hIB659, hJB659, (by omega), zp675, zp656, (by unfold bLn; (first | rw [if_pos (by omega)] | rw [if_neg (by omega), if_pos (by omega)] | rw [if_neg (by omega), if_neg (by omega), if_pos (by omega)] | rw [if_neg (by omega), if_neg (by omega), if_neg (by omega), if_pos (by omega)] | rw [if_neg (by omega), if_neg (by omega), if_neg (by omega), if_neg (by omega)]); exact zp657), zp658⟩
