set_option maxRecDepth 4000 in
set_option maxHeartbeats 4000000 in
/-- M.there -/
theorem r_211 (a1 : Int32) (a2 : Int32) (a3 : Int32) (H : mzH) (hI : gI SM H) (hJ : JN H) (hp0 : ((∀ A, tkW H A → gdM A))) : gCall 211 [.ref 0, .int a1, .int a2, .int a3] H (gRi (fun v H' => gI SM H' ∧ JN H' ∧ fZ H' 0 2 = fZ H 0 2 ∧ kpM H H' ∧ ((v.toInt = -1 ∧ ¬ ((a1.toInt = -4 ∨ a1.toInt = -3 ∨ (0 ≤ a1.toInt ∧ a1.toInt < (aZ H 2 0).toInt)) ∧ (0 ≤ a2.toInt ∧ a2.toInt ≤ 999) ∧ 0 ≤ a3.toInt)) ∨ (((a1.toInt = -4 ∨ a1.toInt = -3 ∨ (0 ≤ a1.toInt ∧ a1.toInt < (aZ H 2 0).toInt)) ∧ (0 ≤ a2.toInt ∧ a2.toInt ≤ 999) ∧ 0 ≤ a3.toInt) ∧ ∃ A : mzH, tkW H A ∧ ∃ G : mzH, clR (rgM G) (mdM G) ∧ ∃ p : Nat, stM A a2.toInt p ∧ v.toInt = pkF (fun x => if whM (fM A G p).1 (fM A G p).2 x = a1.toInt then (1 : Int) else 0) 40 0 a3.toInt)))) := by
  obtain ⟨k0_2, ek0_2⟩ : ∃ z, z = fZ H 0 2 := ⟨_, rfl⟩
  have ik0_2 : k0_2.toInt = (fZ H 0 2).toInt := by rw [← ek0_2]
  have bk0_2 : 0 ≤ k0_2.toInt ∧ k0_2.toInt ≤ 900 := by rw [ek0_2]; exact fZ_of hI sm_0 rfl
  have mkfr : kpM H H := kpM_r
  refine gG_call [(0, .ref 0), (1, .int a1), (2, .int a2), (3, .int a3)] ⟨rfl, rfl, rfl, rfl, trivial⟩ ?_
  show gG 6 zB_211 (mzBlk zB_211 0) [(0, .ref 0), (1, .int a1), (2, .int a2), (3, .int a3)] [] H 0 0 _
  refine g_aload_n rfl ?_
  refine g_iconst (by decide) (fun v485 kv485 => ?_)
  refine g_pfi hI sm_0 rfl (gz_any _) (fun H486 eH486 hIH486 => ?_)
  have hJH486 : JN H486 := JN_sF eH486 hJ
  have e487 : k0_2 = fZ H486 0 2 := by rw [eH486, fZ_sF_ne (by decide)]; exact ek0_2
  have m488 : kpM H H486 := kpM_F mkfr eH486 (by omega)
  refine g_aload_n rfl ?_
  refine g_iload_n rfl ?_
  refine g_invvi hIH486 sm_0 rfl rfl rfl rfl (r_210 a1 H486 hIH486 hJH486) (fun v491 H489 r490 => ?_)
  obtain ⟨rfl, bv491, p492, p493⟩ := r490
  rw [m488.1 2 (by decide)] at p492
  refine g_if_ne (fun c494 => ?_) (fun c494 => ?_)
  · refine g_iload_n rfl ?_
    refine g_invti rfl rfl rfl (r_206 a2 H486 hIH486 hJH486) (fun v497 H495 r496 => ?_)
    obtain ⟨rfl, bv497, p498⟩ := r496
    refine g_if_eq (fun c499 => ?_) (fun c499 => ?_)
    · refine g_iconst (by decide) (fun v500 kv500 => ?_)
      exact g_iret ⟨_, rfl, hIH486, hJH486, (e487.symm.trans ek0_2), m488, (Or.inl ⟨by omega, by omega⟩)⟩
    · refine g_iload_n rfl ?_
      refine g_if_ge (fun c501 => ?_) (fun c501 => ?_)
      · refine g_aload_n rfl ?_
        refine g_iload_n rfl ?_
        refine g_invvv hIH486 sm_0 rfl rfl rfl rfl (r_200 a2 H486 hIH486 hJH486 (fun A t => hp0 A (tk_kp m488 t))) (fun H502 r503 => ?_)
        obtain ⟨hIH502, hJH502, w504, m505, p506⟩ := r503
        have e507 : k0_2 = fZ H502 0 2 := e487.trans w504.symm
        have m508 : kpM H H502 := kpM_t m488 m505
        obtain ⟨A509, tA509, G510, cG510, p511, wdp511, stp511, wyp511, oip511⟩ := p506
        have uA509 : tkW H A509 := tk_kp m488 tA509
        obtain ⟨dpp511, lap511⟩ := (hp0 A509 uA509).2 G510 cG510 p511 stp511.1
        refine g_iload_n rfl ?_
        refine g_istore (l' := [(0, .ref 0), (1, .int a1), (2, .int a2), (3, .int a3), (4, .int a3)]) rfl rfl ?_
        refine g_iconst (by decide) (fun v512 kv512 => ?_)
        refine g_istore (l' := [(0, .ref 0), (1, .int a1), (2, .int a2), (3, .int a3), (4, .int a3), (5, .int v512)]) rfl rfl ?_
        refine g_nop ?_
        have L515 : ∀ (N : Nat) (v513 : Int32) (v514 : Int32), (0 ≤ v513.toInt ∧ v513.toInt ≤ 2147483647) → (0 ≤ v514.toInt ∧ v514.toInt ≤ 40) → pkF (fun x => if whM (fM A509 G510 p511).1 (fM A509 G510 p511).2 x = a1.toInt then (1 : Int) else 0) (40 - v514.toInt.toNat) v514.toInt.toNat v513.toInt = pkF (fun x => if whM (fM A509 G510 p511).1 (fM A509 G510 p511).2 x = a1.toInt then (1 : Int) else 0) 40 0 a3.toInt → (40 - v514.toInt).toNat < N → gG 6 zB_211 (mzBlk zB_211 4) [(0, .ref 0), (1, .int a1), (2, .int a2), (3, .int a3), (4, .int v513), (5, .int v514)] [] H502 0 0 (gRi (fun v H' => gI SM H' ∧ JN H' ∧ fZ H' 0 2 = fZ H 0 2 ∧ kpM H H' ∧ ((v.toInt = -1 ∧ ¬ ((a1.toInt = -4 ∨ a1.toInt = -3 ∨ (0 ≤ a1.toInt ∧ a1.toInt < (aZ H 2 0).toInt)) ∧ (0 ≤ a2.toInt ∧ a2.toInt ≤ 999) ∧ 0 ≤ a3.toInt)) ∨ (((a1.toInt = -4 ∨ a1.toInt = -3 ∨ (0 ≤ a1.toInt ∧ a1.toInt < (aZ H 2 0).toInt)) ∧ (0 ≤ a2.toInt ∧ a2.toInt ≤ 999) ∧ 0 ≤ a3.toInt) ∧ ∃ A : mzH, tkW H A ∧ ∃ G : mzH, clR (rgM G) (mdM G) ∧ ∃ p : Nat, stM A a2.toInt p ∧ v.toInt = pkF (fun x => if whM (fM A G p).1 (fM A G p).2 x = a1.toInt then (1 : Int) else 0) 40 0 a3.toInt)))) := by
          intro N
          induction N with
          | zero => intro v513 v514 bv513 bv514 q1 hmL515; exact absurd hmL515 (Nat.not_lt_zero _)
          | succ N ihL515 =>
            intro v513 v514 bv513 bv514 q1 hmL515
            refine g_iload rfl ?_
            refine g_bipush (by decide) (fun v516 kv516 => ?_)
            refine g_if2_ge (fun c517 => ?_) (fun c517 => ?_)
            · refine g_bipush (by decide) (fun v518 kv518 => ?_)
              exact g_iret ⟨_, rfl, hIH502, (JM_n hJH502), (e507.symm.trans ek0_2), m508, (Or.inr ⟨by omega, ⟨A509, uA509, G510, cG510, p511, stp511,  (by rw [pk_e q1 (by omega)]; omega)⟩⟩)⟩
            · refine g_aload_n rfl ?_
              refine g_iload rfl ?_
              refine g_invvi hIH502 sm_0 rfl rfl rfl rfl (r_201 v514 (by omega) H502 hIH502 hJH502 wdp511 dpp511) (fun v521 H519 r520 => ?_)
              obtain ⟨rfl, bv521, p522⟩ := r520
              refine g_iload_n rfl ?_
              refine g_if2_eq (fun c523 => ?_) (fun c523 => ?_)
              · refine g_iload rfl ?_
                refine g_if_ne (fun c524 => ?_) (fun c524 => ?_)
                · refine g_iinc (l' := (fun v525 => [(0, .ref 0), (1, .int a1), (2, .int a2), (3, .int a3), (4, .int v525), (5, .int v514)])) rfl rfl (by decide) (by have := gz_any v513; omega) (fun _ => rfl) (fun v525 ev525 => ?_)
                  refine g_nop ?_
                  refine g_iinc (l' := (fun v526 => [(0, .ref 0), (1, .int a1), (2, .int a2), (3, .int a3), (4, .int v525), (5, .int v526)])) rfl rfl (by decide) (by omega) (fun _ => rfl) (fun v526 ev526 => ?_)
                  refine g_goto ?_
                  exact ihL515 v525 v526 (by have := gz_any v525; omega) (by omega) (pk_s q1 (by show (if whM (fM A509 G510 p511).1 (fM A509 G510 p511).2 v514.toInt.toNat = a1.toInt then (1 : Int) else 0) = 1; rw [if_pos (by omega)]) (by omega) (by omega) (by omega) (by omega)) (by omega)
                · refine g_iload rfl ?_
                  exact g_iret ⟨_, rfl, hIH502, (JM_n hJH502), (e507.symm.trans ek0_2), m508, (Or.inr ⟨by omega, ⟨A509, uA509, G510, cG510, p511, stp511,  (by rw [← q1, pk_y (by show (if whM (fM A509 G510 p511).1 (fM A509 G510 p511).2 v514.toInt.toNat = a1.toInt then (1 : Int) else 0) = 1; rw [if_pos (by omega)]) (by omega) (by omega)]; omega)⟩⟩)⟩
              · refine g_goto ?_
                refine g_iinc (l' := (fun v527 => [(0, .ref 0), (1, .int a1), (2, .int a2), (3, .int a3), (4, .int v513), (5, .int v527)])) rfl rfl (by decide) (by omega) (fun _ => rfl) (fun v527 ev527 => ?_)
                refine g_goto ?_
                exact ihL515 v513 v527 (by have := gz_any v513; omega) (by omega) (pk_n q1 (by show ¬ (if whM (fM A509 G510 p511).1 (fM A509 G510 p511).2 v514.toInt.toNat = a1.toInt then (1 : Int) else 0) = 1; rw [if_neg (by omega)]; decide) (by omega) (by omega) (by omega)) (by omega)
        exact L515 _ a3 v512 (by have := gz_any a3; omega) (by omega) (by rw [show (40 - v512.toInt.toNat) = 40 by omega, show v512.toInt.toNat = 0 by omega]) (Nat.lt_succ_self _)
      · refine g_nop ?_
        refine g_iconst (by decide) (fun v528 kv528 => ?_)
        exact g_iret ⟨_, rfl, hIH486, hJH486, (e487.symm.trans ek0_2), m488, (Or.inl ⟨by omega, by omega⟩)⟩
  · refine g_iload_n rfl ?_
    refine g_bipush (by decide) (fun v529 kv529 => ?_)
    refine g_if2_eq (fun c530 => ?_) (fun c530 => ?_)
    · refine g_iload_n rfl ?_
      refine g_invti rfl rfl rfl (r_206 a2 H486 hIH486 hJH486) (fun v533 H531 r532 => ?_)
      obtain ⟨rfl, bv533, p534⟩ := r532
      refine g_if_eq (fun c535 => ?_) (fun c535 => ?_)
      · refine g_iconst (by decide) (fun v536 kv536 => ?_)
        exact g_iret ⟨_, rfl, hIH486, hJH486, (e487.symm.trans ek0_2), m488, (Or.inl ⟨by omega, by omega⟩)⟩
      · refine g_iload_n rfl ?_
        refine g_if_ge (fun c537 => ?_) (fun c537 => ?_)
        · refine g_aload_n rfl ?_
          refine g_iload_n rfl ?_
          refine g_invvv hIH486 sm_0 rfl rfl rfl rfl (r_200 a2 H486 hIH486 hJH486 (fun A t => hp0 A (tk_kp m488 t))) (fun H538 r539 => ?_)
          obtain ⟨hIH538, hJH538, w540, m541, p542⟩ := r539
          have e543 : k0_2 = fZ H538 0 2 := e487.trans w540.symm
          have m544 : kpM H H538 := kpM_t m488 m541
          obtain ⟨A545, tA545, G546, cG546, p547, wdp547, stp547, wyp547, oip547⟩ := p542
          have uA545 : tkW H A545 := tk_kp m488 tA545
          obtain ⟨dpp547, lap547⟩ := (hp0 A545 uA545).2 G546 cG546 p547 stp547.1
          refine g_iload_n rfl ?_
          refine g_istore (l' := [(0, .ref 0), (1, .int a1), (2, .int a2), (3, .int a3), (4, .int a3)]) rfl rfl ?_
          refine g_iconst (by decide) (fun v548 kv548 => ?_)
          refine g_istore (l' := [(0, .ref 0), (1, .int a1), (2, .int a2), (3, .int a3), (4, .int a3), (5, .int v548)]) rfl rfl ?_
          refine g_nop ?_
          have L551 : ∀ (N : Nat) (v549 : Int32) (v550 : Int32), (0 ≤ v549.toInt ∧ v549.toInt ≤ 2147483647) → (0 ≤ v550.toInt ∧ v550.toInt ≤ 40) → pkF (fun x => if whM (fM A545 G546 p547).1 (fM A545 G546 p547).2 x = a1.toInt then (1 : Int) else 0) (40 - v550.toInt.toNat) v550.toInt.toNat v549.toInt = pkF (fun x => if whM (fM A545 G546 p547).1 (fM A545 G546 p547).2 x = a1.toInt then (1 : Int) else 0) 40 0 a3.toInt → (40 - v550.toInt).toNat < N → gG 6 zB_211 (mzBlk zB_211 4) [(0, .ref 0), (1, .int a1), (2, .int a2), (3, .int a3), (4, .int v549), (5, .int v550)] [] H538 0 0 (gRi (fun v H' => gI SM H' ∧ JN H' ∧ fZ H' 0 2 = fZ H 0 2 ∧ kpM H H' ∧ ((v.toInt = -1 ∧ ¬ ((a1.toInt = -4 ∨ a1.toInt = -3 ∨ (0 ≤ a1.toInt ∧ a1.toInt < (aZ H 2 0).toInt)) ∧ (0 ≤ a2.toInt ∧ a2.toInt ≤ 999) ∧ 0 ≤ a3.toInt)) ∨ (((a1.toInt = -4 ∨ a1.toInt = -3 ∨ (0 ≤ a1.toInt ∧ a1.toInt < (aZ H 2 0).toInt)) ∧ (0 ≤ a2.toInt ∧ a2.toInt ≤ 999) ∧ 0 ≤ a3.toInt) ∧ ∃ A : mzH, tkW H A ∧ ∃ G : mzH, clR (rgM G) (mdM G) ∧ ∃ p : Nat, stM A a2.toInt p ∧ v.toInt = pkF (fun x => if whM (fM A G p).1 (fM A G p).2 x = a1.toInt then (1 : Int) else 0) 40 0 a3.toInt)))) := by
            intro N
            induction N with
            | zero => intro v549 v550 bv549 bv550 q1 hmL551; exact absurd hmL551 (Nat.not_lt_zero _)
            | succ N ihL551 =>
              intro v549 v550 bv549 bv550 q1 hmL551
              refine g_iload rfl ?_
              refine g_bipush (by decide) (fun v552 kv552 => ?_)
              refine g_if2_ge (fun c553 => ?_) (fun c553 => ?_)
              · refine g_bipush (by decide) (fun v554 kv554 => ?_)
                exact g_iret ⟨_, rfl, hIH538, (JM_n hJH538), (e543.symm.trans ek0_2), m544, (Or.inr ⟨by omega, ⟨A545, uA545, G546, cG546, p547, stp547,  (by rw [pk_e q1 (by omega)]; omega)⟩⟩)⟩
              · refine g_aload_n rfl ?_
                refine g_iload rfl ?_
                refine g_invvi hIH538 sm_0 rfl rfl rfl rfl (r_201 v550 (by omega) H538 hIH538 hJH538 wdp547 dpp547) (fun v557 H555 r556 => ?_)
                obtain ⟨rfl, bv557, p558⟩ := r556
                refine g_iload_n rfl ?_
                refine g_if2_eq (fun c559 => ?_) (fun c559 => ?_)
                · refine g_iload rfl ?_
                  refine g_if_ne (fun c560 => ?_) (fun c560 => ?_)
                  · refine g_iinc (l' := (fun v561 => [(0, .ref 0), (1, .int a1), (2, .int a2), (3, .int a3), (4, .int v561), (5, .int v550)])) rfl rfl (by decide) (by have := gz_any v549; omega) (fun _ => rfl) (fun v561 ev561 => ?_)
                    refine g_nop ?_
                    refine g_iinc (l' := (fun v562 => [(0, .ref 0), (1, .int a1), (2, .int a2), (3, .int a3), (4, .int v561), (5, .int v562)])) rfl rfl (by decide) (by omega) (fun _ => rfl) (fun v562 ev562 => ?_)
                    refine g_goto ?_
                    exact ihL551 v561 v562 (by have := gz_any v561; omega) (by omega) (pk_s q1 (by show (if whM (fM A545 G546 p547).1 (fM A545 G546 p547).2 v550.toInt.toNat = a1.toInt then (1 : Int) else 0) = 1; rw [if_pos (by omega)]) (by omega) (by omega) (by omega) (by omega)) (by omega)
                  · refine g_iload rfl ?_
                    exact g_iret ⟨_, rfl, hIH538, (JM_n hJH538), (e543.symm.trans ek0_2), m544, (Or.inr ⟨by omega, ⟨A545, uA545, G546, cG546, p547, stp547,  (by rw [← q1, pk_y (by show (if whM (fM A545 G546 p547).1 (fM A545 G546 p547).2 v550.toInt.toNat = a1.toInt then (1 : Int) else 0) = 1; rw [if_pos (by omega)]) (by omega) (by omega)]; omega)⟩⟩)⟩
                · refine g_goto ?_
                  refine g_iinc (l' := (fun v563 => [(0, .ref 0), (1, .int a1), (2, .int a2), (3, .int a3), (4, .int v549), (5, .int v563)])) rfl rfl (by decide) (by omega) (fun _ => rfl) (fun v563 ev563 => ?_)
                  refine g_goto ?_
                  exact ihL551 v549 v563 (by have := gz_any v549; omega) (by omega) (pk_n q1 (by show ¬ (if whM (fM A545 G546 p547).1 (fM A545 G546 p547).2 v550.toInt.toNat = a1.toInt then (1 : Int) else 0) = 1; rw [if_neg (by omega)]; decide) (by omega) (by omega) (by omega)) (by omega)
          exact L551 _ a3 v548 (by have := gz_any a3; omega) (by omega) (by rw [show (40 - v548.toInt.toNat) = 40 by omega, show v548.toInt.toNat = 0 by omega]) (Nat.lt_succ_self _)
        · refine g_nop ?_
          refine g_iconst (by decide) (fun v564 kv564 => ?_)
          exact g_iret ⟨_, rfl, hIH486, hJH486, (e487.symm.trans ek0_2), m488, (Or.inl ⟨by omega, by omega⟩)⟩
    · refine g_iload_n rfl ?_
      refine g_bipush (by decide) (fun v565 kv565 => ?_)
      refine g_if2_ne (fun c566 => ?_) (fun c566 => ?_)
      · refine g_iconst (by decide) (fun v567 kv567 => ?_)
        exact g_iret ⟨_, rfl, hIH486, hJH486, (e487.symm.trans ek0_2), m488, (Or.inl ⟨by omega, by omega⟩)⟩
      · refine g_nop ?_
        refine g_iload_n rfl ?_
        refine g_invti rfl rfl rfl (r_206 a2 H486 hIH486 hJH486) (fun v570 H568 r569 => ?_)
        obtain ⟨rfl, bv570, p571⟩ := r569
        refine g_if_eq (fun c572 => ?_) (fun c572 => ?_)
        · refine g_iconst (by decide) (fun v573 kv573 => ?_)
          exact g_iret ⟨_, rfl, hIH486, hJH486, (e487.symm.trans ek0_2), m488, (Or.inl ⟨by omega, by omega⟩)⟩
        · refine g_iload_n rfl ?_
          refine g_if_ge (fun c574 => ?_) (fun c574 => ?_)
          · refine g_aload_n rfl ?_
            refine g_iload_n rfl ?_
            refine g_invvv hIH486 sm_0 rfl rfl rfl rfl (r_200 a2 H486 hIH486 hJH486 (fun A t => hp0 A (tk_kp m488 t))) (fun H575 r576 => ?_)
            obtain ⟨hIH575, hJH575, w577, m578, p579⟩ := r576
            have e580 : k0_2 = fZ H575 0 2 := e487.trans w577.symm
            have m581 : kpM H H575 := kpM_t m488 m578
            obtain ⟨A582, tA582, G583, cG583, p584, wdp584, stp584, wyp584, oip584⟩ := p579
            have uA582 : tkW H A582 := tk_kp m488 tA582
            obtain ⟨dpp584, lap584⟩ := (hp0 A582 uA582).2 G583 cG583 p584 stp584.1
            refine g_iload_n rfl ?_
            refine g_istore (l' := [(0, .ref 0), (1, .int a1), (2, .int a2), (3, .int a3), (4, .int a3)]) rfl rfl ?_
            refine g_iconst (by decide) (fun v585 kv585 => ?_)
            refine g_istore (l' := [(0, .ref 0), (1, .int a1), (2, .int a2), (3, .int a3), (4, .int a3), (5, .int v585)]) rfl rfl ?_
            refine g_nop ?_
            have L588 : ∀ (N : Nat) (v586 : Int32) (v587 : Int32), (0 ≤ v586.toInt ∧ v586.toInt ≤ 2147483647) → (0 ≤ v587.toInt ∧ v587.toInt ≤ 40) → pkF (fun x => if whM (fM A582 G583 p584).1 (fM A582 G583 p584).2 x = a1.toInt then (1 : Int) else 0) (40 - v587.toInt.toNat) v587.toInt.toNat v586.toInt = pkF (fun x => if whM (fM A582 G583 p584).1 (fM A582 G583 p584).2 x = a1.toInt then (1 : Int) else 0) 40 0 a3.toInt → (40 - v587.toInt).toNat < N → gG 6 zB_211 (mzBlk zB_211 4) [(0, .ref 0), (1, .int a1), (2, .int a2), (3, .int a3), (4, .int v586), (5, .int v587)] [] H575 0 0 (gRi (fun v H' => gI SM H' ∧ JN H' ∧ fZ H' 0 2 = fZ H 0 2 ∧ kpM H H' ∧ ((v.toInt = -1 ∧ ¬ ((a1.toInt = -4 ∨ a1.toInt = -3 ∨ (0 ≤ a1.toInt ∧ a1.toInt < (aZ H 2 0).toInt)) ∧ (0 ≤ a2.toInt ∧ a2.toInt ≤ 999) ∧ 0 ≤ a3.toInt)) ∨ (((a1.toInt = -4 ∨ a1.toInt = -3 ∨ (0 ≤ a1.toInt ∧ a1.toInt < (aZ H 2 0).toInt)) ∧ (0 ≤ a2.toInt ∧ a2.toInt ≤ 999) ∧ 0 ≤ a3.toInt) ∧ ∃ A : mzH, tkW H A ∧ ∃ G : mzH, clR (rgM G) (mdM G) ∧ ∃ p : Nat, stM A a2.toInt p ∧ v.toInt = pkF (fun x => if whM (fM A G p).1 (fM A G p).2 x = a1.toInt then (1 : Int) else 0) 40 0 a3.toInt)))) := by
              intro N
              induction N with
              | zero => intro v586 v587 bv586 bv587 q1 hmL588; exact absurd hmL588 (Nat.not_lt_zero _)
              | succ N ihL588 =>
                intro v586 v587 bv586 bv587 q1 hmL588
                refine g_iload rfl ?_
                refine g_bipush (by decide) (fun v589 kv589 => ?_)
                refine g_if2_ge (fun c590 => ?_) (fun c590 => ?_)
                · refine g_bipush (by decide) (fun v591 kv591 => ?_)
                  exact g_iret ⟨_, rfl, hIH575, (JM_n hJH575), (e580.symm.trans ek0_2), m581, (Or.inr ⟨by omega, ⟨A582, uA582, G583, cG583, p584, stp584,  (by rw [pk_e q1 (by omega)]; omega)⟩⟩)⟩
                · refine g_aload_n rfl ?_
                  refine g_iload rfl ?_
                  refine g_invvi hIH575 sm_0 rfl rfl rfl rfl (r_201 v587 (by omega) H575 hIH575 hJH575 wdp584 dpp584) (fun v594 H592 r593 => ?_)
                  obtain ⟨rfl, bv594, p595⟩ := r593
                  refine g_iload_n rfl ?_
                  refine g_if2_eq (fun c596 => ?_) (fun c596 => ?_)
                  · refine g_iload rfl ?_
                    refine g_if_ne (fun c597 => ?_) (fun c597 => ?_)
                    · refine g_iinc (l' := (fun v598 => [(0, .ref 0), (1, .int a1), (2, .int a2), (3, .int a3), (4, .int v598), (5, .int v587)])) rfl rfl (by decide) (by have := gz_any v586; omega) (fun _ => rfl) (fun v598 ev598 => ?_)
                      refine g_nop ?_
                      refine g_iinc (l' := (fun v599 => [(0, .ref 0), (1, .int a1), (2, .int a2), (3, .int a3), (4, .int v598), (5, .int v599)])) rfl rfl (by decide) (by omega) (fun _ => rfl) (fun v599 ev599 => ?_)
                      refine g_goto ?_
                      exact ihL588 v598 v599 (by have := gz_any v598; omega) (by omega) (pk_s q1 (by show (if whM (fM A582 G583 p584).1 (fM A582 G583 p584).2 v587.toInt.toNat = a1.toInt then (1 : Int) else 0) = 1; rw [if_pos (by omega)]) (by omega) (by omega) (by omega) (by omega)) (by omega)
                    · refine g_iload rfl ?_
                      exact g_iret ⟨_, rfl, hIH575, (JM_n hJH575), (e580.symm.trans ek0_2), m581, (Or.inr ⟨by omega, ⟨A582, uA582, G583, cG583, p584, stp584,  (by rw [← q1, pk_y (by show (if whM (fM A582 G583 p584).1 (fM A582 G583 p584).2 v587.toInt.toNat = a1.toInt then (1 : Int) else 0) = 1; rw [if_pos (by omega)]) (by omega) (by omega)]; omega)⟩⟩)⟩
                  · refine g_goto ?_
                    refine g_iinc (l' := (fun v600 => [(0, .ref 0), (1, .int a1), (2, .int a2), (3, .int a3), (4, .int v586), (5, .int v600)])) rfl rfl (by decide) (by omega) (fun _ => rfl) (fun v600 ev600 => ?_)
                    refine g_goto ?_
                    exact ihL588 v586 v600 (by have := gz_any v586; omega) (by omega) (pk_n q1 (by show ¬ (if whM (fM A582 G583 p584).1 (fM A582 G583 p584).2 v587.toInt.toNat = a1.toInt then (1 : Int) else 0) = 1; rw [if_neg (by omega)]; decide) (by omega) (by omega) (by omega)) (by omega)
            exact L588 _ a3 v585 (by have := gz_any a3; omega) (by omega) (by rw [show (40 - v585.toInt.toNat) = 40 by omega, show v585.toInt.toNat = 0 by omega]) (Nat.lt_succ_self _)
          · refine g_nop ?_
            refine g_iconst (by decide) (fun v601 kv601 => ?_)
            exact g_iret ⟨_, rfl, hIH486, hJH486, (e487.symm.trans ek0_2), m488, (Or.inl ⟨by omega, by omega⟩)⟩
