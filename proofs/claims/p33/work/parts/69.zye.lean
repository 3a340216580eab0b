theorem rt0_1 {pl : Nat → Int} {wm : Int → Int → Int} {k : Nat} {x : Int} (e : k = 0) (h : x = -1) : x = (rtS pl wm k).1 := by
  subst e
  exact h
theorem rt0_2 {pl : Nat → Int} {wm : Int → Int → Int} {k : Nat} {x : Int} (e : k = 0) (h : x = 0) : x = (rtS pl wm k).2 := by
  subst e
  exact h
theorem rts_1 {pl : Nat → Int} {wm : Int → Int → Int} {k k2 : Nat} {x : Int} (q : x = (rtS pl wm k).1) (e : k2 = k + 1) (h : pl k < 0) : x = (rtS pl wm k2).1 := by
  subst e
  rw [rt_s h]
  exact q
theorem rts_2 {pl : Nat → Int} {wm : Int → Int → Int} {k k2 : Nat} {x : Int} (q : x = (rtS pl wm k).2) (e : k2 = k + 1) (h : pl k < 0) : x = (rtS pl wm k2).2 := by
  subst e
  rw [rt_s h]
  exact q
theorem rtn_1 {pl : Nat → Int} {wm : Int → Int → Int} {k k2 : Nat} {x : Int} (e : k2 = k + 1) (h : ¬ pl k < 0) (y : x = pl k) : x = (rtS pl wm k2).1 := by
  subst e
  rw [rt_n h, y]
theorem rtn_2 {pl : Nat → Int} {wm : Int → Int → Int} {k k2 : Nat} {x w s : Int} (q1 : w = (rtS pl wm k).1) (q2 : s = (rtS pl wm k).2) (e : k2 = k + 1) (h : ¬ pl k < 0) (y : x = s + (if w ≠ -1 ∧ wm w (pl k) < 100000 then wm w (pl k) else 0)) : x = (rtS pl wm k2).2 := by
  subst e
  rw [rt_n h, y, q1, q2]
set_option maxRecDepth 4000 in
set_option maxHeartbeats 4000000 in
/-- M.travelled -/
theorem r_250 (a1 : Int32) (H : mzH) (hI : gI SM H) (hJ : JN H) (hp0 : ((∀ A, tkW H A → gdM A))) (hp1 : (∀ a b : Int, (0 ≤ a ∧ a < 8) → (0 ≤ b ∧ b < 8) → 0 ≤ wyM H a b)) : gCall 250 [.ref 0, .int a1] H (gRi (fun v H' => gI SM H' ∧ JN H' ∧ fZ H' 0 2 = fZ H 0 2 ∧ kpM H H' ∧ ((v.toInt = -1 ∧ ¬ ((0 ≤ a1.toInt ∧ a1.toInt ≤ 39))) ∨ (((0 ≤ a1.toInt ∧ a1.toInt ≤ 39)) ∧ (∃ A : mzH, tkW H A ∧ ∃ G : mzH, clR (rgM G) (mdM G) ∧ v.toInt = (if (trS (fun q => whM (fM A G (q + 1)).1 (fM A G (q + 1)).2 a1.toInt.toNat) (hqM A) (cnM A)).1 = 0 then -2 else (rtS (trS (fun q => whM (fM A G (q + 1)).1 (fM A G (q + 1)).2 a1.toInt.toNat) (hqM A) (cnM A)).2.1 (wyM H) (trS (fun q => whM (fM A G (q + 1)).1 (fM A G (q + 1)).2 a1.toInt.toNat) (hqM A) (cnM A)).1).2)))))) := by
  obtain ⟨k0_2, ek0_2⟩ : ∃ z, z = fZ H 0 2 := ⟨_, rfl⟩
  have ik0_2 : k0_2.toInt = (fZ H 0 2).toInt := by rw [← ek0_2]
  have bk0_2 : 0 ≤ k0_2.toInt ∧ k0_2.toInt ≤ 900 := by rw [ek0_2]; exact fZ_of hI sm_0 rfl
  have mkfr : kpM H H := kpM_r
  refine gG_call [(0, .ref 0), (1, .int a1)] ⟨rfl, rfl, trivial⟩ ?_
  show gG 6 zB_250 (mzBlk zB_250 0) [(0, .ref 0), (1, .int a1)] [] H 0 0 _
  refine g_aload_n rfl ?_
  refine g_iconst (by decide) (fun v468 kv468 => ?_)
  refine g_pfi hI sm_0 rfl (gz_any _) (fun H469 eH469 hIH469 => ?_)
  have hJH469 : JN H469 := JN_sF eH469 hJ
  have e470 : k0_2 = fZ H469 0 2 := by rw [eH469, fZ_sF_ne (by decide)]; exact ek0_2
  have m471 : kpM H H469 := kpM_F mkfr eH469 (by omega)
  refine g_iload_n rfl ?_
  refine g_invti rfl rfl rfl (r_205 a1 H469 hIH469 hJH469) (fun v474 H472 r473 => ?_)
  obtain ⟨rfl, bv474, p475⟩ := r473
  refine g_if_ne (fun c476 => ?_) (fun c476 => ?_)
  · refine g_aload_n rfl ?_
    refine g_iload_n rfl ?_
    refine g_invvv hIH469 sm_0 rfl rfl rfl rfl (r_214 a1 (by omega) H469 hIH469 hJH469 (fun A t => hp0 A (tk_kp m471 t))) (fun H477 r478 => ?_)
    obtain ⟨hIH477, hJH477, w479, m480, p481⟩ := r478
    have e482 : k0_2 = fZ H477 0 2 := e470.trans w479.symm
    have m483 : kpM H H477 := kpM_t m471 m480
    obtain ⟨A484, ttA484, G485, cG485, tnG485, taG485⟩ := p481
    have uA484 : tkW H A484 := tk_kp m471 ttA484
    refine g_iconst (by decide) (fun v486 kv486 => ?_)
    refine g_istore_n (l' := [(0, .ref 0), (1, .int a1), (2, .int v486)]) rfl rfl ?_
    refine g_iconst (by decide) (fun v487 kv487 => ?_)
    refine g_istore_n (l' := [(0, .ref 0), (1, .int a1), (2, .int v486), (3, .int v487)]) rfl rfl ?_
    refine g_iconst (by decide) (fun v488 kv488 => ?_)
    refine g_istore (l' := [(0, .ref 0), (1, .int a1), (2, .int v486), (3, .int v487), (4, .int v488)]) rfl rfl ?_
    refine g_nop ?_
    have L492 : ∀ (N : Nat) (v489 : Int32) (v490 : Int32) (v491 : Int32), (0 ≤ v489.toInt ∧ v489.toInt ≤ 6099939) → (-1 ≤ v490.toInt ∧ v490.toInt ≤ 7) → (0 ≤ v491.toInt ∧ v491.toInt ≤ 60) → v490.toInt = (rtS (trS (fun q => whM (fM A484 G485 (q + 1)).1 (fM A484 G485 (q + 1)).2 a1.toInt.toNat) (hqM A484) (cnM A484)).2.1 (wyM H) v491.toInt.toNat).1 → v489.toInt = (rtS (trS (fun q => whM (fM A484 G485 (q + 1)).1 (fM A484 G485 (q + 1)).2 a1.toInt.toNat) (hqM A484) (cnM A484)).2.1 (wyM H) v491.toInt.toNat).2 → (0 ≤ v489.toInt ∧ v489.toInt ≤ 99999 * v491.toInt) → (v491.toInt : Int) ≤ ((trS (fun q => whM (fM A484 G485 (q + 1)).1 (fM A484 G485 (q + 1)).2 a1.toInt.toNat) (hqM A484) (cnM A484)).1 : Int) → (60 - v491.toInt).toNat < N → gG 6 zB_250 (mzBlk zB_250 2) [(0, .ref 0), (1, .int a1), (2, .int v489), (3, .int v490), (4, .int v491)] [] H477 0 0 (gRi (fun v H' => gI SM H' ∧ JN H' ∧ fZ H' 0 2 = fZ H 0 2 ∧ kpM H H' ∧ ((v.toInt = -1 ∧ ¬ ((0 ≤ a1.toInt ∧ a1.toInt ≤ 39))) ∨ (((0 ≤ a1.toInt ∧ a1.toInt ≤ 39)) ∧ (∃ A : mzH, tkW H A ∧ ∃ G : mzH, clR (rgM G) (mdM G) ∧ v.toInt = (if (trS (fun q => whM (fM A G (q + 1)).1 (fM A G (q + 1)).2 a1.toInt.toNat) (hqM A) (cnM A)).1 = 0 then -2 else (rtS (trS (fun q => whM (fM A G (q + 1)).1 (fM A G (q + 1)).2 a1.toInt.toNat) (hqM A) (cnM A)).2.1 (wyM H) (trS (fun q => whM (fM A G (q + 1)).1 (fM A G (q + 1)).2 a1.toInt.toNat) (hqM A) (cnM A)).1).2)))))) := by
      intro N
      induction N with
      | zero => intro v489 v490 v491 bv489 bv490 bv491 q1 q2 q3 q4 hmL492; exact absurd hmL492 (Nat.not_lt_zero _)
      | succ N ihL492 =>
        intro v489 v490 v491 bv489 bv490 bv491 q1 q2 q3 q4 hmL492
        refine g_iload rfl ?_
        refine g_aload_n rfl ?_
        refine g_gfi hIH477 sm_0 rfl (fun v493 ev493 lv493 uv493 => ?_)
        have zv493 : v493.toInt = (fZ H477 0 39).toInt := by rw [ev493]
        refine g_if2_ge (fun c494 => ?_) (fun c494 => ?_)
        · refine g_aload_n rfl ?_
          refine g_gfi hIH477 sm_0 rfl (fun v495 ev495 lv495 uv495 => ?_)
          have zv495 : v495.toInt = (fZ H477 0 39).toInt := by rw [ev495]
          refine g_if_ne (fun c496 => ?_) (fun c496 => ?_)
          · refine g_iload_n rfl ?_
            refine g_nop ?_
            exact g_iret ⟨_, rfl, hIH477, (JM_n hJH477), (e482.symm.trans ek0_2), m483, (Or.inr ⟨by omega, ⟨A484, uA484, G485, cG485,  by rw [if_neg (by omega), show (trS (fun q => whM (fM A484 G485 (q + 1)).1 (fM A484 G485 (q + 1)).2 a1.toInt.toNat) (hqM A484) (cnM A484)).1 = v491.toInt.toNat by omega]; exact q2⟩⟩)⟩
          · refine g_bipush (by decide) (fun v497 kv497 => ?_)
            refine g_goto ?_
            exact g_iret ⟨_, rfl, hIH477, (JM_n hJH477), (e482.symm.trans ek0_2), m483, (Or.inr ⟨by omega, ⟨A484, uA484, G485, cG485,  by rw [if_pos (by omega)]; omega⟩⟩)⟩
        · refine g_aload_n rfl ?_
          refine g_gfr hIH477 sm_0 rfl ?_
          refine g_iload rfl ?_
          refine g_iaload hIH477 sm_22 rfl (by omega) (fun v498 ev498 lv498 uv498 => ?_)
          have yv498 : v498.toInt = (trS (fun q => whM (fM A484 G485 (q + 1)).1 (fM A484 G485 (q + 1)).2 a1.toInt.toNat) (hqM A484) (cnM A484)).2.1 v491.toInt.toNat := by rw [ev498]; exact (taG485 v491.toInt.toNat (by omega)).1
          refine g_istore (l' := [(0, .ref 0), (1, .int a1), (2, .int v489), (3, .int v490), (4, .int v491), (5, .int v498)]) rfl rfl ?_
          refine g_iload rfl ?_
          refine g_if_ge (fun c499 => ?_) (fun c499 => ?_)
          · refine g_iload_n rfl ?_
            refine g_iconst (by decide) (fun v500 kv500 => ?_)
            refine g_if2_eq (fun c501 => ?_) (fun c501 => ?_)
            · refine g_iload rfl ?_
              refine g_istore_n (l' := [(0, .ref 0), (1, .int a1), (2, .int v489), (3, .int v498), (4, .int v491), (5, .int v498)]) rfl rfl ?_
              refine g_nop ?_
              refine g_iinc (l' := (fun v502 => [(0, .ref 0), (1, .int a1), (2, .int v489), (3, .int v498), (4, .int v502), (5, .int v498)])) rfl rfl (by decide) (by omega) (fun _ => rfl) (fun v502 ev502 => ?_)
              refine g_goto ?_
              refine gG_pick [0, 1, 2, 3, 4] (l' := [(0, .ref 0), (1, .int a1), (2, .int v489), (3, .int v498), (4, .int v502)]) rfl ?_
              exact ihL492 v489 v498 v502 (by omega) (by omega) (by omega) (rtn_1 (k := v491.toInt.toNat) (by omega) (by omega) (by omega)) (rtn_2 q1 q2 (by omega) (by omega) (by rw [← yv498]; first | (rw [if_pos ⟨by omega, by omega⟩]; omega) | (rw [if_neg (by omega)]; omega))) (by omega) (by omega) (by omega)
            · refine g_aload_n rfl ?_
              refine g_gfr hIH477 sm_0 rfl ?_
              refine g_bipush (by decide) (fun v503 kv503 => ?_)
              refine g_iload_n rfl ?_
              refine g_imulk' (n := 8) kv503 (by omega) (fun v504 ev504 => ?_)
              refine g_iload rfl ?_
              refine g_iadd (by omega) (fun v505 ev505 => ?_)
              refine g_iaload hIH477 sm_6 rfl (by omega) (fun v506 ev506 lv506 uv506 => ?_)
              have wvv506 : v506.toInt = wyM H v490.toInt v498.toInt := by unfold wyM; rw [ev506, m483.1 6 (by decide), show (8 * v490.toInt + v498.toInt).toNat = v505.toInt.toNat by omega]
              have wbv506 := hp1 v490.toInt v498.toInt (by omega) (by omega)
              refine g_ldc (by decide) (fun v507 kv507 => ?_)
              refine g_if2_ge (fun c508 => ?_) (fun c508 => ?_)
              · refine g_iload rfl ?_
                refine g_istore_n (l' := [(0, .ref 0), (1, .int a1), (2, .int v489), (3, .int v498), (4, .int v491), (5, .int v498)]) rfl rfl ?_
                refine g_nop ?_
                refine g_iinc (l' := (fun v509 => [(0, .ref 0), (1, .int a1), (2, .int v489), (3, .int v498), (4, .int v509), (5, .int v498)])) rfl rfl (by decide) (by omega) (fun _ => rfl) (fun v509 ev509 => ?_)
                refine g_goto ?_
                refine gG_pick [0, 1, 2, 3, 4] (l' := [(0, .ref 0), (1, .int a1), (2, .int v489), (3, .int v498), (4, .int v509)]) rfl ?_
                exact ihL492 v489 v498 v509 (by omega) (by omega) (by omega) (rtn_1 (k := v491.toInt.toNat) (by omega) (by omega) (by omega)) (rtn_2 q1 q2 (by omega) (by omega) (by rw [← yv498]; first | (rw [if_pos ⟨by omega, by omega⟩]; omega) | (rw [if_neg (by omega)]; omega))) (by omega) (by omega) (by omega)
              · refine g_iload_n rfl ?_
                refine g_aload_n rfl ?_
                refine g_gfr hIH477 sm_0 rfl ?_
                refine g_bipush (by decide) (fun v510 kv510 => ?_)
                refine g_iload_n rfl ?_
                refine g_imulk' (n := 8) kv510 (by omega) (fun v511 ev511 => ?_)
                refine g_iload rfl ?_
                refine g_iadd (by omega) (fun v512 ev512 => ?_)
                refine g_iaload hIH477 sm_6 rfl (by omega) (fun v513 ev513 lv513 uv513 => ?_)
                have wvv513 : v513.toInt = wyM H v490.toInt v498.toInt := by unfold wyM; rw [ev513, m483.1 6 (by decide), show (8 * v490.toInt + v498.toInt).toNat = v512.toInt.toNat by omega]
                have wbv513 := hp1 v490.toInt v498.toInt (by omega) (by omega)
                refine g_iadd' (fun v514 ov514 => ?_)
                have sv514 : v514.toInt = v489.toInt + v513.toInt := gz_add_of ov514 (by omega)
                refine g_istore_n (l' := [(0, .ref 0), (1, .int a1), (2, .int v514), (3, .int v490), (4, .int v491), (5, .int v498)]) rfl rfl ?_
                refine g_nop ?_
                refine g_iload rfl ?_
                refine g_istore_n (l' := [(0, .ref 0), (1, .int a1), (2, .int v514), (3, .int v498), (4, .int v491), (5, .int v498)]) rfl rfl ?_
                refine g_nop ?_
                refine g_iinc (l' := (fun v515 => [(0, .ref 0), (1, .int a1), (2, .int v514), (3, .int v498), (4, .int v515), (5, .int v498)])) rfl rfl (by decide) (by omega) (fun _ => rfl) (fun v515 ev515 => ?_)
                refine g_goto ?_
                refine gG_pick [0, 1, 2, 3, 4] (l' := [(0, .ref 0), (1, .int a1), (2, .int v514), (3, .int v498), (4, .int v515)]) rfl ?_
                exact ihL492 v514 v498 v515 (by omega) (by omega) (by omega) (rtn_1 (k := v491.toInt.toNat) (by omega) (by omega) (by omega)) (rtn_2 q1 q2 (by omega) (by omega) (by rw [← yv498]; first | (rw [if_pos ⟨by omega, by omega⟩]; omega) | (rw [if_neg (by omega)]; omega))) (by omega) (by omega) (by omega)
          · refine g_goto ?_
            refine g_iinc (l' := (fun v516 => [(0, .ref 0), (1, .int a1), (2, .int v489), (3, .int v490), (4, .int v516), (5, .int v498)])) rfl rfl (by decide) (by omega) (fun _ => rfl) (fun v516 ev516 => ?_)
            refine g_goto ?_
            refine gG_pick [0, 1, 2, 3, 4] (l' := [(0, .ref 0), (1, .int a1), (2, .int v489), (3, .int v490), (4, .int v516)]) rfl ?_
            exact ihL492 v489 v490 v516 (by omega) (by omega) (by omega) (rts_1 q1 (by omega) (by omega)) (rts_2 q2 (by omega) (by omega)) (by omega) (by omega) (by omega)
    exact L492 _ v486 v487 v488 (by omega) (by omega) (by omega) (rt0_1 (by omega) (by omega)) (rt0_2 (by omega) (by omega)) (by omega) (by omega) (Nat.lt_succ_self _)
  · refine g_iconst (by decide) (fun v517 kv517 => ?_)
    exact g_iret ⟨_, rfl, hIH469, hJH469, (e470.symm.trans ek0_2), m471, (Or.inl ⟨by omega, by omega⟩)⟩
