theorem kr_k {K V so va wo : Int} (h : kR K V so va wo) : (5 ≤ K ∧ K ≤ 7 ∧ so = 0 ∧ va = K + 10) ∨ (¬ (5 ≤ K ∧ K ≤ 7) ∧ ¬ (so = 0 ∧ 15 ≤ va ∧ va ≤ 17)) := by
  unfold kR kwR nmR at h
  omega
theorem tk_y {T : pT} {lo hi : Int} {g : pG} (h : lo ≤ T.K g.t ∧ T.K g.t ≤ hi) : pTake T lo hi g = pGn T g := by
  unfold pTake pGn
  rw [if_neg (by first | with_reducible assumption | omega)]
  if c : g.f = 0 then rw [if_neg (fun z => z c), if_pos c]
  else rw [if_pos c, if_neg c]
theorem tk_n {T : pT} {lo hi : Int} {g : pG} (h : g.f ≠ 0 ∨ ¬ (lo ≤ T.K g.t ∧ T.K g.t ≤ hi)) : pTake T lo hi g = pGn T (pFail T 1 g) := by
  rw [gn_no (pF_ne (by decide)).1]
  if c : g.f = 0 then
    unfold pTake
    rw [if_pos (by first | with_reducible assumption | omega)]
  else rw [pT_no c, pF_neg c]
set_option maxRecDepth 4000 in
set_option maxHeartbeats 4000000 in
/-- M.kindHere, exactly -/
theorem f_169 (H : mzH) (hI : gI SM H) (hJ : JN H) (x0 x1 x2 x3 x4 x5 x6 : Int32) (hx0 : 0 ≤ x0.toInt ∧ x0.toInt ≤ 900) (hx1 : 0 ≤ x1.toInt ∧ x1.toInt ≤ 900) (hx2 : 0 ≤ x2.toInt ∧ x2.toInt ≤ 4) {b : Nat → Int} {n : Nat} {T : pT} {g : pG} (hp0 : tkM H b n T) (hp1 : rdM b n T g x0 x1 x2 x3 x4 x5 x6) : gCall 169 [.ref 0] (mS H x0 x1 x2 x3 x4 x5 x6) (gRi (fun v H' => ∃ y0 y1 y2 y3 y4 y5 y6 : Int32, H' = mS H y0 y1 y2 y3 y4 y5 y6 ∧ (0 ≤ v.toInt ∧ v.toInt ≤ 2) ∧ (0 ≤ y0.toInt ∧ y0.toInt ≤ 900) ∧ (0 ≤ y1.toInt ∧ y1.toInt ≤ 900) ∧ (0 ≤ y2.toInt ∧ y2.toInt ≤ 4) ∧ rdM b n T (pTake T 5 7 g) y0 y1 y2 y3 y4 y5 y6 ∧ ((pTake T 5 7 g).f ≠ 0 ∨ v.toInt = T.K g.t - 5))) := by
  obtain ⟨r0, r1, r2, r3, r4, r5⟩ := id hp1
  have w0 := hp0.2.2
  have w1 := at_le hp0.2.1 r2
  have w2 := kr_n r1
  have w5 := kr_k r1
  refine gG_call [(0, .ref 0)] ⟨rfl, trivial⟩ ?_
  show gG 3 zB_169 (mzBlk zB_169 0) [(0, .ref 0)] [] (mS H x0 x1 x2 x3 x4 x5 x6) 0 0 _
  refine g_aload_n rfl ?_
  refine g_gfk (mS_I hI (by first | with_reducible assumption | omega) (by first | with_reducible assumption | omega) (by first | with_reducible assumption | omega)) sm_0 rfl (mS_g13 hI) ?_
  refine g_if_ne (fun c365 => ?_) (fun c365 => ?_)
  · refine g_iconst (by decide) (fun v366 kv366 => ?_)
    refine g_nop ?_
    refine g_istore_n (l' := [(0, .ref 0), (1, .int v366)]) rfl rfl ?_
    refine g_iload_n rfl ?_
    refine g_if_ne (fun c367 => ?_) (fun c367 => ?_)
    · exfalso; omega
    · refine g_aload_n rfl ?_
      refine g_iconst (by decide) (fun v368 kv368 => ?_)
      refine g_invvv (mS_I hI (by first | with_reducible assumption | omega) (by first | with_reducible assumption | omega) (by first | with_reducible assumption | omega)) sm_0 rfl rfl rfl rfl (f_161 v368 (by first | with_reducible assumption | omega) H hI hJ x0 x1 x2 x3 x4 x5 x6 (by first | with_reducible assumption | omega) (by first | with_reducible assumption | omega) (by first | with_reducible assumption | omega) hp0 hp1) (fun H369 r370 => ?_)
      obtain ⟨y371, y372, rfl, zp373⟩ := r370
      rw [kv368] at zp373
      obtain ⟨razp373, rbzp373, rczp373, rdzp373, rezp373, rfzp373⟩ := id zp373
      unfold kR nmR kwR at rbzp373
      have nzp373 := pF_ne (T := T) (g := g) (n := 1) (by first | with_reducible assumption | omega)
      refine g_nop ?_
      refine g_iload_n rfl ?_
      refine g_if_eq (fun c374 => ?_) (fun c374 => ?_)
      · refine g_iconst (by decide) (fun v375 kv375 => ?_)
        refine g_nop ?_
        refine g_istore_n (l' := [(0, .ref 0), (1, .int v366), (2, .int v375)]) rfl rfl ?_
        refine g_aload_n rfl ?_
        refine g_invvv (mS_I hI (by first | with_reducible assumption | omega) (by first | with_reducible assumption | omega) (by first | with_reducible assumption | omega)) sm_0 rfl rfl rfl rfl (f_162 H hI hJ x0 x1 x2 x3 x4 y371 y372 (by first | with_reducible assumption | omega) (by first | with_reducible assumption | omega) (by first | with_reducible assumption | omega) hp0 zp373) (fun H376 r377 => ?_)
        obtain ⟨y378, y379, y380, y381, y382, rfl, by378, by379, by380, zp383⟩ := r377
        obtain ⟨razp383, rbzp383, rczp383, rdzp383, rezp383, rfzp383⟩ := id zp383
        unfold kR nmR kwR at rbzp383
        have nzp383 := gn_f (T := T) (g := (pFail T 1 g))
        refine g_iload_n rfl ?_
        exact g_iret ⟨_, rfl, y378, y379, y380, y381, y382, y371, y372, rfl, (by first | with_reducible assumption | omega), (by first | with_reducible assumption | omega), (by first | with_reducible assumption | omega), (by first | with_reducible assumption | omega), (by first | (rw [tk_y (by first | with_reducible assumption | omega)]; exact zp383) | (rw [tk_n (by first | with_reducible assumption | omega)]; exact zp383)), (by first | (right; omega) | (left; rw [tk_n (by first | with_reducible assumption | omega), gn_f]; omega))⟩
      · exfalso; omega
  · refine g_aload_n rfl ?_
    refine g_gfk (mS_I hI (by first | with_reducible assumption | omega) (by first | with_reducible assumption | omega) (by first | with_reducible assumption | omega)) sm_0 rfl (mS_g10 hI) ?_
    refine g_if_ne (fun c384 => ?_) (fun c384 => ?_)
    · refine g_iconst (by decide) (fun v385 kv385 => ?_)
      refine g_nop ?_
      refine g_istore_n (l' := [(0, .ref 0), (1, .int v385)]) rfl rfl ?_
      refine g_iload_n rfl ?_
      refine g_if_ne (fun c386 => ?_) (fun c386 => ?_)
      · exfalso; omega
      · refine g_aload_n rfl ?_
        refine g_iconst (by decide) (fun v387 kv387 => ?_)
        refine g_invvv (mS_I hI (by first | with_reducible assumption | omega) (by first | with_reducible assumption | omega) (by first | with_reducible assumption | omega)) sm_0 rfl rfl rfl rfl (f_161 v387 (by first | with_reducible assumption | omega) H hI hJ x0 x1 x2 x3 x4 x5 x6 (by first | with_reducible assumption | omega) (by first | with_reducible assumption | omega) (by first | with_reducible assumption | omega) hp0 hp1) (fun H388 r389 => ?_)
        obtain ⟨y390, y391, rfl, zp392⟩ := r389
        rw [kv387] at zp392
        obtain ⟨razp392, rbzp392, rczp392, rdzp392, rezp392, rfzp392⟩ := id zp392
        unfold kR nmR kwR at rbzp392
        have nzp392 := pF_ne (T := T) (g := g) (n := 1) (by first | with_reducible assumption | omega)
        refine g_nop ?_
        refine g_iload_n rfl ?_
        refine g_if_eq (fun c393 => ?_) (fun c393 => ?_)
        · refine g_iconst (by decide) (fun v394 kv394 => ?_)
          refine g_nop ?_
          refine g_istore_n (l' := [(0, .ref 0), (1, .int v385), (2, .int v394)]) rfl rfl ?_
          refine g_aload_n rfl ?_
          refine g_invvv (mS_I hI (by first | with_reducible assumption | omega) (by first | with_reducible assumption | omega) (by first | with_reducible assumption | omega)) sm_0 rfl rfl rfl rfl (f_162 H hI hJ x0 x1 x2 x3 x4 y390 y391 (by first | with_reducible assumption | omega) (by first | with_reducible assumption | omega) (by first | with_reducible assumption | omega) hp0 zp392) (fun H395 r396 => ?_)
          obtain ⟨y397, y398, y399, y400, y401, rfl, by397, by398, by399, zp402⟩ := r396
          obtain ⟨razp402, rbzp402, rczp402, rdzp402, rezp402, rfzp402⟩ := id zp402
          unfold kR nmR kwR at rbzp402
          have nzp402 := gn_f (T := T) (g := (pFail T 1 g))
          refine g_iload_n rfl ?_
          exact g_iret ⟨_, rfl, y397, y398, y399, y400, y401, y390, y391, rfl, (by first | with_reducible assumption | omega), (by first | with_reducible assumption | omega), (by first | with_reducible assumption | omega), (by first | with_reducible assumption | omega), (by first | (rw [tk_y (by first | with_reducible assumption | omega)]; exact zp402) | (rw [tk_n (by first | with_reducible assumption | omega)]; exact zp402)), (by first | (right; omega) | (left; rw [tk_n (by first | with_reducible assumption | omega), gn_f]; omega))⟩
        · exfalso; omega
    · refine g_aload_n rfl ?_
      refine g_gfk (mS_I hI (by first | with_reducible assumption | omega) (by first | with_reducible assumption | omega) (by first | with_reducible assumption | omega)) sm_0 rfl (mS_g11 hI) ?_
      refine g_bipush (by decide) (fun v403 kv403 => ?_)
      refine g_if2_lt (fun c404 => ?_) (fun c404 => ?_)
      · refine g_iconst (by decide) (fun v405 kv405 => ?_)
        refine g_nop ?_
        refine g_istore_n (l' := [(0, .ref 0), (1, .int v405)]) rfl rfl ?_
        refine g_iload_n rfl ?_
        refine g_if_ne (fun c406 => ?_) (fun c406 => ?_)
        · exfalso; omega
        · refine g_aload_n rfl ?_
          refine g_iconst (by decide) (fun v407 kv407 => ?_)
          refine g_invvv (mS_I hI (by first | with_reducible assumption | omega) (by first | with_reducible assumption | omega) (by first | with_reducible assumption | omega)) sm_0 rfl rfl rfl rfl (f_161 v407 (by first | with_reducible assumption | omega) H hI hJ x0 x1 x2 x3 x4 x5 x6 (by first | with_reducible assumption | omega) (by first | with_reducible assumption | omega) (by first | with_reducible assumption | omega) hp0 hp1) (fun H408 r409 => ?_)
          obtain ⟨y410, y411, rfl, zp412⟩ := r409
          rw [kv407] at zp412
          obtain ⟨razp412, rbzp412, rczp412, rdzp412, rezp412, rfzp412⟩ := id zp412
          unfold kR nmR kwR at rbzp412
          have nzp412 := pF_ne (T := T) (g := g) (n := 1) (by first | with_reducible assumption | omega)
          refine g_nop ?_
          refine g_iload_n rfl ?_
          refine g_if_eq (fun c413 => ?_) (fun c413 => ?_)
          · refine g_iconst (by decide) (fun v414 kv414 => ?_)
            refine g_nop ?_
            refine g_istore_n (l' := [(0, .ref 0), (1, .int v405), (2, .int v414)]) rfl rfl ?_
            refine g_aload_n rfl ?_
            refine g_invvv (mS_I hI (by first | with_reducible assumption | omega) (by first | with_reducible assumption | omega) (by first | with_reducible assumption | omega)) sm_0 rfl rfl rfl rfl (f_162 H hI hJ x0 x1 x2 x3 x4 y410 y411 (by first | with_reducible assumption | omega) (by first | with_reducible assumption | omega) (by first | with_reducible assumption | omega) hp0 zp412) (fun H415 r416 => ?_)
            obtain ⟨y417, y418, y419, y420, y421, rfl, by417, by418, by419, zp422⟩ := r416
            obtain ⟨razp422, rbzp422, rczp422, rdzp422, rezp422, rfzp422⟩ := id zp422
            unfold kR nmR kwR at rbzp422
            have nzp422 := gn_f (T := T) (g := (pFail T 1 g))
            refine g_iload_n rfl ?_
            exact g_iret ⟨_, rfl, y417, y418, y419, y420, y421, y410, y411, rfl, (by first | with_reducible assumption | omega), (by first | with_reducible assumption | omega), (by first | with_reducible assumption | omega), (by first | with_reducible assumption | omega), (by first | (rw [tk_y (by first | with_reducible assumption | omega)]; exact zp422) | (rw [tk_n (by first | with_reducible assumption | omega)]; exact zp422)), (by first | (right; omega) | (left; rw [tk_n (by first | with_reducible assumption | omega), gn_f]; omega))⟩
          · exfalso; omega
      · refine g_aload_n rfl ?_
        refine g_gfk (mS_I hI (by first | with_reducible assumption | omega) (by first | with_reducible assumption | omega) (by first | with_reducible assumption | omega)) sm_0 rfl (mS_g11 hI) ?_
        refine g_bipush (by decide) (fun v423 kv423 => ?_)
        refine g_if2_gt (fun c424 => ?_) (fun c424 => ?_)
        · refine g_iconst (by decide) (fun v425 kv425 => ?_)
          refine g_nop ?_
          refine g_istore_n (l' := [(0, .ref 0), (1, .int v425)]) rfl rfl ?_
          refine g_iload_n rfl ?_
          refine g_if_ne (fun c426 => ?_) (fun c426 => ?_)
          · exfalso; omega
          · refine g_aload_n rfl ?_
            refine g_iconst (by decide) (fun v427 kv427 => ?_)
            refine g_invvv (mS_I hI (by first | with_reducible assumption | omega) (by first | with_reducible assumption | omega) (by first | with_reducible assumption | omega)) sm_0 rfl rfl rfl rfl (f_161 v427 (by first | with_reducible assumption | omega) H hI hJ x0 x1 x2 x3 x4 x5 x6 (by first | with_reducible assumption | omega) (by first | with_reducible assumption | omega) (by first | with_reducible assumption | omega) hp0 hp1) (fun H428 r429 => ?_)
            obtain ⟨y430, y431, rfl, zp432⟩ := r429
            rw [kv427] at zp432
            obtain ⟨razp432, rbzp432, rczp432, rdzp432, rezp432, rfzp432⟩ := id zp432
            unfold kR nmR kwR at rbzp432
            have nzp432 := pF_ne (T := T) (g := g) (n := 1) (by first | with_reducible assumption | omega)
            refine g_nop ?_
            refine g_iload_n rfl ?_
            refine g_if_eq (fun c433 => ?_) (fun c433 => ?_)
            · refine g_iconst (by decide) (fun v434 kv434 => ?_)
              refine g_nop ?_
              refine g_istore_n (l' := [(0, .ref 0), (1, .int v425), (2, .int v434)]) rfl rfl ?_
              refine g_aload_n rfl ?_
              refine g_invvv (mS_I hI (by first | with_reducible assumption | omega) (by first | with_reducible assumption | omega) (by first | with_reducible assumption | omega)) sm_0 rfl rfl rfl rfl (f_162 H hI hJ x0 x1 x2 x3 x4 y430 y431 (by first | with_reducible assumption | omega) (by first | with_reducible assumption | omega) (by first | with_reducible assumption | omega) hp0 zp432) (fun H435 r436 => ?_)
              obtain ⟨y437, y438, y439, y440, y441, rfl, by437, by438, by439, zp442⟩ := r436
              obtain ⟨razp442, rbzp442, rczp442, rdzp442, rezp442, rfzp442⟩ := id zp442
              unfold kR nmR kwR at rbzp442
              have nzp442 := gn_f (T := T) (g := (pFail T 1 g))
              refine g_iload_n rfl ?_
              exact g_iret ⟨_, rfl, y437, y438, y439, y440, y441, y430, y431, rfl, (by first | with_reducible assumption | omega), (by first | with_reducible assumption | omega), (by first | with_reducible assumption | omega), (by first | with_reducible assumption | omega), (by first | (rw [tk_y (by first | with_reducible assumption | omega)]; exact zp442) | (rw [tk_n (by first | with_reducible assumption | omega)]; exact zp442)), (by first | (right; omega) | (left; rw [tk_n (by first | with_reducible assumption | omega), gn_f]; omega))⟩
            · exfalso; omega
        · refine g_iconst (by decide) (fun v443 kv443 => ?_)
          refine g_goto ?_
          refine g_istore_n (l' := [(0, .ref 0), (1, .int v443)]) rfl rfl ?_
          refine g_iload_n rfl ?_
          refine g_if_ne (fun c444 => ?_) (fun c444 => ?_)
          · refine g_iload_n rfl ?_
            refine g_if_eq (fun c445 => ?_) (fun c445 => ?_)
            · exfalso; omega
            · refine g_aload_n rfl ?_
              refine g_gfk (mS_I hI (by first | with_reducible assumption | omega) (by first | with_reducible assumption | omega) (by first | with_reducible assumption | omega)) sm_0 rfl (mS_g11 hI) ?_
              refine g_bipush (by decide) (fun v446 kv446 => ?_)
              refine g_isub (by first | with_reducible assumption | omega) (fun v447 ev447 => ?_)
              refine g_goto ?_
              refine g_istore_n (l' := [(0, .ref 0), (1, .int v443), (2, .int v447)]) rfl rfl ?_
              refine g_aload_n rfl ?_
              refine g_invvv (mS_I hI (by first | with_reducible assumption | omega) (by first | with_reducible assumption | omega) (by first | with_reducible assumption | omega)) sm_0 rfl rfl rfl rfl (f_162 H hI hJ x0 x1 x2 x3 x4 x5 x6 (by first | with_reducible assumption | omega) (by first | with_reducible assumption | omega) (by first | with_reducible assumption | omega) hp0 hp1) (fun H448 r449 => ?_)
              obtain ⟨y450, y451, y452, y453, y454, rfl, by450, by451, by452, zp455⟩ := r449
              obtain ⟨razp455, rbzp455, rczp455, rdzp455, rezp455, rfzp455⟩ := id zp455
              unfold kR nmR kwR at rbzp455
              have nzp455 := gn_f (T := T) (g := g)
              refine g_iload_n rfl ?_
              exact g_iret ⟨_, rfl, y450, y451, y452, y453, y454, x5, x6, rfl, (by first | with_reducible assumption | omega), (by first | with_reducible assumption | omega), (by first | with_reducible assumption | omega), (by first | with_reducible assumption | omega), (by first | (rw [tk_y (by first | with_reducible assumption | omega)]; exact zp455) | (rw [tk_n (by first | with_reducible assumption | omega)]; exact zp455)), (by first | (right; omega) | (left; rw [tk_n (by first | with_reducible assumption | omega), gn_f]; omega))⟩
          · exfalso; omega
