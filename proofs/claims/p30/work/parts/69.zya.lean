set_option maxRecDepth 4000 in
set_option maxHeartbeats 4000000 in
/-- M.lost -/
theorem r_246 (a1 : Int32) (a2 : Int32) (a3 : Int32) (H : mzH) (hI : gI SM H) (hJ : JN H) (hp0 : ((∀ A, tkW H A → gdM A))) : gCall 246 [.ref 0, .int a1, .int a2, .int a3] H (gRi (fun v H' => gI SM H' ∧ JN H' ∧ fZ H' 0 2 = fZ H 0 2 ∧ kpM H H' ∧ ((v.toInt = -1 ∧ ¬ ((0 ≤ a1.toInt ∧ a1.toInt ≤ 999) ∧ (0 ≤ a2.toInt ∧ a2.toInt ≤ 999) ∧ 0 ≤ a3.toInt)) ∨ (((0 ≤ a1.toInt ∧ a1.toInt ≤ 999) ∧ (0 ≤ a2.toInt ∧ a2.toInt ≤ 999) ∧ 0 ≤ a3.toInt) ∧ ∃ A : mzH, tkW H A ∧ ∃ G : mzH, clR (rgM G) (mdM G) ∧ ∃ p : Nat, stM A a1.toInt p ∧ v.toInt = pkF (fun x => if 0 ≤ whM (fM A G p).1 (fM A G p).2 x ∧ a2.toInt ≤ a1.toInt - ((fM A G p).1).la (tp (fM A G p).1 x) then (1 : Int) else 0) 40 0 a3.toInt)))) := by
  obtain ⟨k0_2, ek0_2⟩ : ∃ z, z = fZ H 0 2 := ⟨_, rfl⟩
  have ik0_2 : k0_2.toInt = (fZ H 0 2).toInt := by rw [← ek0_2]
  have bk0_2 : 0 ≤ k0_2.toInt ∧ k0_2.toInt ≤ 900 := by rw [ek0_2]; exact fZ_of hI sm_0 rfl
  have mkfr : kpM H H := kpM_r
  refine gG_call [(0, .ref 0), (1, .int a1), (2, .int a2), (3, .int a3)] ⟨rfl, rfl, rfl, rfl, trivial⟩ ?_
  show gG 6 zB_246 (mzBlk zB_246 0) [(0, .ref 0), (1, .int a1), (2, .int a2), (3, .int a3)] [] H 0 0 _
  refine g_aload_n rfl ?_
  refine g_iconst (by decide) (fun v409 kv409 => ?_)
  refine g_pfi hI sm_0 rfl (gz_any _) (fun H410 eH410 hIH410 => ?_)
  have hJH410 : JN H410 := JN_sF eH410 hJ
  have e411 : k0_2 = fZ H410 0 2 := by rw [eH410, fZ_sF_ne (by decide)]; exact ek0_2
  have m412 : kpM H H410 := kpM_F mkfr eH410 (by omega)
  refine g_iload_n rfl ?_
  refine g_invti rfl rfl rfl (r_206 a1 H410 hIH410 hJH410) (fun v415 H413 r414 => ?_)
  obtain ⟨rfl, bv415, p416⟩ := r414
  refine g_if_eq (fun c417 => ?_) (fun c417 => ?_)
  · refine g_iconst (by decide) (fun v418 kv418 => ?_)
    exact g_iret ⟨_, rfl, hIH410, hJH410, (e411.symm.trans ek0_2), m412, (Or.inl ⟨by omega, by omega⟩)⟩
  · refine g_iload_n rfl ?_
    refine g_invti rfl rfl rfl (r_206 a2 H410 hIH410 hJH410) (fun v421 H419 r420 => ?_)
    obtain ⟨rfl, bv421, p422⟩ := r420
    refine g_if_eq (fun c423 => ?_) (fun c423 => ?_)
    · refine g_iconst (by decide) (fun v424 kv424 => ?_)
      exact g_iret ⟨_, rfl, hIH410, hJH410, (e411.symm.trans ek0_2), m412, (Or.inl ⟨by omega, by omega⟩)⟩
    · refine g_iload_n rfl ?_
      refine g_if_ge (fun c425 => ?_) (fun c425 => ?_)
      · refine g_aload_n rfl ?_
        refine g_iload_n rfl ?_
        refine g_invvv hIH410 sm_0 rfl rfl rfl rfl (r_200 a1 H410 hIH410 hJH410 (fun A t => hp0 A (tk_kp m412 t))) (fun H426 r427 => ?_)
        obtain ⟨hIH426, hJH426, w428, m429, p430⟩ := r427
        have e431 : k0_2 = fZ H426 0 2 := e411.trans w428.symm
        have m432 : kpM H H426 := kpM_t m412 m429
        obtain ⟨A433, tA433, G434, cG434, p435, wdp435, stp435, wyp435, oip435⟩ := p430
        have uA433 : tkW H A433 := tk_kp m412 tA433
        obtain ⟨dpp435, lap435⟩ := (hp0 A433 uA433).2 G434 cG434 p435 stp435.1
        refine g_iload_n rfl ?_
        refine g_istore (l' := [(0, .ref 0), (1, .int a1), (2, .int a2), (3, .int a3), (4, .int a3)]) rfl rfl ?_
        refine g_iconst (by decide) (fun v436 kv436 => ?_)
        refine g_istore (l' := [(0, .ref 0), (1, .int a1), (2, .int a2), (3, .int a3), (4, .int a3), (5, .int v436)]) rfl rfl ?_
        refine g_nop ?_
        have L439 : ∀ (N : Nat) (v437 : Int32) (v438 : Int32), (0 ≤ v437.toInt ∧ v437.toInt ≤ 2147483647) → (0 ≤ v438.toInt ∧ v438.toInt ≤ 40) → pkF (fun x => if 0 ≤ whM (fM A433 G434 p435).1 (fM A433 G434 p435).2 x ∧ a2.toInt ≤ a1.toInt - ((fM A433 G434 p435).1).la (tp (fM A433 G434 p435).1 x) then (1 : Int) else 0) (40 - v438.toInt.toNat) v438.toInt.toNat v437.toInt = pkF (fun x => if 0 ≤ whM (fM A433 G434 p435).1 (fM A433 G434 p435).2 x ∧ a2.toInt ≤ a1.toInt - ((fM A433 G434 p435).1).la (tp (fM A433 G434 p435).1 x) then (1 : Int) else 0) 40 0 a3.toInt → (40 - v438.toInt).toNat < N → gG 6 zB_246 (mzBlk zB_246 3) [(0, .ref 0), (1, .int a1), (2, .int a2), (3, .int a3), (4, .int v437), (5, .int v438)] [] H426 0 0 (gRi (fun v H' => gI SM H' ∧ JN H' ∧ fZ H' 0 2 = fZ H 0 2 ∧ kpM H H' ∧ ((v.toInt = -1 ∧ ¬ ((0 ≤ a1.toInt ∧ a1.toInt ≤ 999) ∧ (0 ≤ a2.toInt ∧ a2.toInt ≤ 999) ∧ 0 ≤ a3.toInt)) ∨ (((0 ≤ a1.toInt ∧ a1.toInt ≤ 999) ∧ (0 ≤ a2.toInt ∧ a2.toInt ≤ 999) ∧ 0 ≤ a3.toInt) ∧ ∃ A : mzH, tkW H A ∧ ∃ G : mzH, clR (rgM G) (mdM G) ∧ ∃ p : Nat, stM A a1.toInt p ∧ v.toInt = pkF (fun x => if 0 ≤ whM (fM A G p).1 (fM A G p).2 x ∧ a2.toInt ≤ a1.toInt - ((fM A G p).1).la (tp (fM A G p).1 x) then (1 : Int) else 0) 40 0 a3.toInt)))) := by
          intro N
          induction N with
          | zero => intro v437 v438 bv437 bv438 q1 hmL439; exact absurd hmL439 (Nat.not_lt_zero _)
          | succ N ihL439 =>
            intro v437 v438 bv437 bv438 q1 hmL439
            refine g_iload rfl ?_
            refine g_bipush (by decide) (fun v440 kv440 => ?_)
            refine g_if2_ge (fun c441 => ?_) (fun c441 => ?_)
            · refine g_bipush (by decide) (fun v442 kv442 => ?_)
              exact g_iret ⟨_, rfl, hIH426, (JM_n hJH426), (e431.symm.trans ek0_2), m432, (Or.inr ⟨by omega, ⟨A433, uA433, G434, cG434, p435, stp435,  (by rw [pk_e q1 (by omega)]; omega)⟩⟩)⟩
            · refine g_aload_n rfl ?_
              refine g_iload rfl ?_
              refine g_invvi hIH426 sm_0 rfl rfl rfl rfl (r_201 v438 (by omega) H426 hIH426 hJH426 wdp435 dpp435) (fun v445 H443 r444 => ?_)
              obtain ⟨rfl, bv445, p446⟩ := r444
              refine g_if_lt (fun c447 => ?_) (fun c447 => ?_)
              · refine g_iinc (l' := (fun v448 => [(0, .ref 0), (1, .int a1), (2, .int a2), (3, .int a3), (4, .int v437), (5, .int v448)])) rfl rfl (by decide) (by omega) (fun _ => rfl) (fun v448 ev448 => ?_)
                refine g_goto ?_
                exact ihL439 v437 v448 (by have := gz_any v437; omega) (by omega) (pk_n q1 (by show ¬ (if 0 ≤ whM (fM A433 G434 p435).1 (fM A433 G434 p435).2 v438.toInt.toNat ∧ a2.toInt ≤ a1.toInt - ((fM A433 G434 p435).1).la (tp (fM A433 G434 p435).1 v438.toInt.toNat) then (1 : Int) else 0) = 1; rw [if_neg (by omega)]; decide) (by omega) (by omega) (by omega)) (by omega)
              · refine g_iload_n rfl ?_
                refine g_aload_n rfl ?_
                refine g_gfr hIH426 sm_0 rfl ?_
                refine g_aload_n rfl ?_
                refine g_iload rfl ?_
                refine g_invvi hIH426 sm_0 rfl rfl rfl rfl (r_185 v438 (by omega) H426 hIH426 hJH426 wdp435 dpp435) (fun v451 H449 r450 => ?_)
                obtain ⟨rfl, bv451, p452⟩ := r450
                have tnv451 : v451.toInt.toNat = tp (fM A433 G434 p435).1 v438.toInt.toNat := by omega
                refine g_iaload hIH426 sm_11 rfl (by omega) (fun v453 ev453 lv453 uv453 => ?_)
                have yv453 : v453.toInt = ((fM A433 G434 p435).1).la v451.toInt.toNat := by rw [ev453]; exact (wdp435 _ (by omega)).2.2.2.2.1
                rw [tnv451] at yv453
                refine g_isub' (fun v454 ov454 => ?_)
                have lbv454 := lap435 v438.toInt.toNat (by omega) (wm_md (r := (fM A433 G434 p435).1) (by omega))
                have sv454 : v454.toInt = a1.toInt - v453.toInt := gz_sub_of ov454 (by omega)
                refine g_iload_n rfl ?_
                refine g_if2_ge (fun c455 => ?_) (fun c455 => ?_)
                · refine g_iload rfl ?_
                  refine g_if_ne (fun c456 => ?_) (fun c456 => ?_)
                  · refine g_iinc (l' := (fun v457 => [(0, .ref 0), (1, .int a1), (2, .int a2), (3, .int a3), (4, .int v457), (5, .int v438)])) rfl rfl (by decide) (by have := gz_any v437; omega) (fun _ => rfl) (fun v457 ev457 => ?_)
                    refine g_nop ?_
                    refine g_iinc (l' := (fun v458 => [(0, .ref 0), (1, .int a1), (2, .int a2), (3, .int a3), (4, .int v457), (5, .int v458)])) rfl rfl (by decide) (by omega) (fun _ => rfl) (fun v458 ev458 => ?_)
                    refine g_goto ?_
                    exact ihL439 v457 v458 (by have := gz_any v457; omega) (by omega) (pk_s q1 (by show (if 0 ≤ whM (fM A433 G434 p435).1 (fM A433 G434 p435).2 v438.toInt.toNat ∧ a2.toInt ≤ a1.toInt - ((fM A433 G434 p435).1).la (tp (fM A433 G434 p435).1 v438.toInt.toNat) then (1 : Int) else 0) = 1; rw [if_pos (by omega)]) (by omega) (by omega) (by omega) (by omega)) (by omega)
                  · refine g_iload rfl ?_
                    exact g_iret ⟨_, rfl, hIH426, (JM_n hJH426), (e431.symm.trans ek0_2), m432, (Or.inr ⟨by omega, ⟨A433, uA433, G434, cG434, p435, stp435,  (by rw [← q1, pk_y (by show (if 0 ≤ whM (fM A433 G434 p435).1 (fM A433 G434 p435).2 v438.toInt.toNat ∧ a2.toInt ≤ a1.toInt - ((fM A433 G434 p435).1).la (tp (fM A433 G434 p435).1 v438.toInt.toNat) then (1 : Int) else 0) = 1; rw [if_pos (by omega)]) (by omega) (by omega)]; omega)⟩⟩)⟩
                · refine g_goto ?_
                  refine g_iinc (l' := (fun v459 => [(0, .ref 0), (1, .int a1), (2, .int a2), (3, .int a3), (4, .int v437), (5, .int v459)])) rfl rfl (by decide) (by omega) (fun _ => rfl) (fun v459 ev459 => ?_)
                  refine g_goto ?_
                  exact ihL439 v437 v459 (by have := gz_any v437; omega) (by omega) (pk_n q1 (by show ¬ (if 0 ≤ whM (fM A433 G434 p435).1 (fM A433 G434 p435).2 v438.toInt.toNat ∧ a2.toInt ≤ a1.toInt - ((fM A433 G434 p435).1).la (tp (fM A433 G434 p435).1 v438.toInt.toNat) then (1 : Int) else 0) = 1; rw [if_neg (by omega)]; decide) (by omega) (by omega) (by omega)) (by omega)
        exact L439 _ a3 v436 (by have := gz_any a3; omega) (by omega) (by rw [show (40 - v436.toInt.toNat) = 40 by omega, show v436.toInt.toNat = 0 by omega]) (Nat.lt_succ_self _)
      · refine g_nop ?_
        refine g_iconst (by decide) (fun v460 kv460 => ?_)
        exact g_iret ⟨_, rfl, hIH410, hJH410, (e411.symm.trans ek0_2), m412, (Or.inl ⟨by omega, by omega⟩)⟩
