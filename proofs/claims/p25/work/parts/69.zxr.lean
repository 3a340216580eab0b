set_option maxRecDepth 4000 in
set_option maxHeartbeats 4000000 in
/-- X5.passages -/
theorem w_61  (a1 : Int32) (a2 : Int32) (H : mzH) (hI : gI SX H) (hJ : JX H) (hp0 : gdX H) : gCall 61 [.ref 24, .int a1, .int a2] H (gRi (fun v H' => gI SX H' ∧ JX H' ∧ fZ H' 1 1 = fZ H 1 1 ∧ kpX H H' ∧ v.toInt = smF (fun p => cnt (fun x => whr (fX H p) x = a1.toInt ∧ whr (fX H (p + 1)) x = a2.toInt) 40) (fZ H 25 2).toInt.toNat)) := by
  obtain ⟨k1_1, ek1_1⟩ : ∃ z, z = fZ H 1 1 := ⟨_, rfl⟩
  have ik1_1 : k1_1.toInt = (fZ H 1 1).toInt := by rw [← ek1_1]
  have bk1_1 : 0 ≤ k1_1.toInt ∧ k1_1.toInt ≤ 900 := by rw [ek1_1]; exact fZ_of hI sx_1 rfl
  have mkfr : kpX H H := kpX_r
  refine gG_call [(0, .ref 24), (1, .int a1), (2, .int a2)] ⟨rfl, rfl, rfl, trivial⟩ ?_
  show gG 7 zB_61 (mzBlk zB_61 0) [(0, .ref 24), (1, .int a1), (2, .int a2)] [] H 0 0 _
  refine g_aload_n rfl ?_
  refine g_gfr hI sx_24 rfl ?_
  refine g_invvv hI sx_28 rfl rfl rfl rfl (w_83 28 zWo_28 H hI hJ) (fun H443 r444 => ?_)
  obtain ⟨hIH443, hJH443, w445, m446, p447⟩ := r444
  have e448 : k1_1 = fZ H443 1 1 := ek1_1.trans w445.symm
  have m449 : kpX H H443 := kpX_t mkfr (kpX_W (by decide) m446)
  refine g_iconst (by decide) (fun v450 kv450 => ?_)
  refine g_istore_n (l' := [(0, .ref 24), (1, .int a1), (2, .int a2), (3, .int v450)]) rfl rfl ?_
  refine g_iconst (by decide) (fun v451 kv451 => ?_)
  refine g_istore (l' := [(0, .ref 24), (1, .int a1), (2, .int a2), (3, .int v450), (4, .int v451)]) rfl rfl ?_
  refine g_nop ?_
  have L457 : ∀ (N : Nat) (v452 : Int32) (v453 : Int32) (H454 : mzH), gI SX H454 → JX H454 → k1_1 = fZ H454 1 1 → kpX H H454 → (0 ≤ v452.toInt ∧ v452.toInt ≤ 2400) → (0 ≤ v453.toInt ∧ v453.toInt ≤ 60) → v453.toInt ≤ (fZ H 25 2).toInt → wdX H454 28 (fX H v453.toInt.toNat) → v452.toInt = smF (fun p => cnt (fun x => whr (fX H p) x = a1.toInt ∧ whr (fX H (p + 1)) x = a2.toInt) 40) v453.toInt.toNat → (0 ≤ v452.toInt ∧ v452.toInt ≤ 40 * v453.toInt) → (60 - v453.toInt).toNat < N → gG 7 zB_61 (mzBlk zB_61 1) [(0, .ref 24), (1, .int a1), (2, .int a2), (3, .int v452), (4, .int v453)] [] H454 0 0 (gRi (fun v H' => gI SX H' ∧ JX H' ∧ fZ H' 1 1 = fZ H 1 1 ∧ kpX H H' ∧ v.toInt = smF (fun p => cnt (fun x => whr (fX H p) x = a1.toInt ∧ whr (fX H (p + 1)) x = a2.toInt) 40) (fZ H 25 2).toInt.toNat)) := by
    intro N
    induction N with
    | zero => intro v452 v453 H454 hIH454 hJH454 e455 m456 bv452 bv453 q0 q1 q2 q3 hmL457; exact absurd hmL457 (Nat.not_lt_zero _)
    | succ N ihL457 =>
      intro v452 v453 H454 hIH454 hJH454 e455 m456 bv452 bv453 q0 q1 q2 q3 hmL457
      refine g_iload rfl ?_
      refine g_aload_n rfl ?_
      refine g_gfr hIH454 sx_24 rfl ?_
      refine g_gfi hIH454 sx_25 rfl (fun v458 ev458 lv458 uv458 => ?_)
      have zv458 : v458.toInt = (fZ H 25 2).toInt := by rw [ev458, (m456 25 (by decide)).1]
      refine g_if2_ge (fun c459 => ?_) (fun c459 => ?_)
      · refine g_iload_n rfl ?_
        exact g_iret ⟨_, rfl, hIH454, hJH454, (e455.symm.trans ek1_1), m456, (by rw [show (fZ H 25 2).toInt.toNat = v453.toInt.toNat by omega]; exact q2)⟩
      · refine g_aload_n rfl ?_
        refine g_gfr hIH454 sx_24 rfl ?_
        refine g_iload_n rfl ?_
        refine g_invvl hIH454 sx_28 rfl rfl rfl rfl (w_105 28 zWo_28 a1 H454 hIH454 hJH454 q1) (fun v462 H460 r461 => ?_)
        obtain ⟨rfl, p463⟩ := r461
        refine g_lstore (l' := [(0, .ref 24), (1, .int a1), (2, .int a2), (3, .int v452), (4, .int v453), (5, .long v462)]) rfl rfl ?_
        refine g_aload_n rfl ?_
        refine g_iload rfl ?_
        refine g_invvi hIH454 sx_24 rfl rfl rfl rfl (w_53 v453 (by omega) H454 hIH454 hJH454 q1 (hp0.2 v453.toInt.toNat (by omega)).1 (hp0.2 v453.toInt.toNat (by omega)).2 (by rw [(m456 26 (by decide)).2, (m456 27 (by decide)).2]; exact (hp0.1 v453.toInt.toNat (by omega)).1) (by rw [(m456 7 (by decide)).2, (m456 27 (by decide)).2]; exact (hp0.1 v453.toInt.toNat (by omega)).2)) (fun v466 H464 r465 => ?_)
        obtain ⟨hIH464, hJH464, w467, m468, p469, p470⟩ := r465
        have e471 : k1_1 = fZ H464 1 1 := e455.trans w467.symm
        have m472 : kpX H H464 := kpX_t m456 m468
        have wzv453 : wdX H464 28 (fX H (v453.toInt.toNat + 1)) := gx_s2 m456 p469 rfl
        have vdv453 := gv_s2 (p := v453.toInt.toNat) m456 p470
        refine g_pop rfl ?_
        refine g_iload_n rfl ?_
        refine g_lload rfl ?_
        refine g_aload_n rfl ?_
        refine g_gfr hIH464 sx_24 rfl ?_
        refine g_iload_n rfl ?_
        refine g_invvl hIH464 sx_28 rfl rfl rfl rfl (w_105 28 zWo_28 a2 H464 hIH464 hJH464 wzv453) (fun v475 H473 r474 => ?_)
        obtain ⟨rfl, p476⟩ := r474
        refine g_land (fun v477 ov477 => ?_)
        refine g_invti rfl rfl rfl (w_253 v477 H464 hIH464 hJH464) (fun v480 H478 r479 => ?_)
        obtain ⟨rfl, p481⟩ := r479
        have csv480 := (is_andd p463 p476 ov477)
        rw [cn_set csv480] at p481
        have cbv480 := cnt_b (p := (fun x => whr (fX H v453.toInt.toNat) x = a1.toInt ∧ whr (fX H (v453.toInt.toNat + 1)) x = a2.toInt)) 40
        refine g_iadd' (fun v482 ov482 => ?_)
        have sv482 : v482.toInt = v452.toInt + v480.toInt := gz_add_of ov482 (by omega)
        refine g_istore_n (l' := [(0, .ref 24), (1, .int a1), (2, .int a2), (3, .int v482), (4, .int v453), (5, .long v462)]) rfl rfl ?_
        refine g_iinc (l' := (fun v483 => [(0, .ref 24), (1, .int a1), (2, .int a2), (3, .int v482), (4, .int v483), (5, .long v462)])) rfl rfl (by decide) (by omega) (fun _ => rfl) (fun v483 ev483 => ?_)
        refine g_goto ?_
        refine gG_pick [0, 1, 2, 3, 4] (l' := [(0, .ref 24), (1, .int a1), (2, .int a2), (3, .int v482), (4, .int v483)]) rfl ?_
        exact ihL457 v482 v483 H464 hIH464 hJH464 e471 m472 (by omega) (by omega) (by omega) (by rw [show v483.toInt.toNat = v453.toInt.toNat + 1 by omega]; exact wzv453) (sm_s q2 (by omega) (by show _ = _ + cnt _ 40; omega)) (by omega) (by omega)
  exact L457 _ v450 v451 H443 hIH443 hJH443 e448 m449 (by omega) (by omega) (by have := fZ_of hI sx_25 (f := 2) rfl; omega) (by rw [kv451]; exact p447) (smf_0 (by omega) (by omega)) (by omega) (Nat.lt_succ_self _)
set_option maxRecDepth 4000 in
set_option maxHeartbeats 4000000 in
/-- X9.flow -/
theorem w_137  (a1 : Int32) (a2 : Int32) (H : mzH) (hI : gI SX H) (hJ : JX H) (hp0 : gdX H) : gCall 137 [.ref 0, .int a1, .int a2] H (gRi (fun v H' => gI SX H' ∧ JX H' ∧ fZ H' 1 1 = fZ H 1 1 ∧ kpX H H' ∧ ((v.toInt = -1 ∧ ¬ ((a1.toInt = -3 ∨ (0 ≤ a1.toInt ∧ a1.toInt < (fZ H 3 7).toInt)) ∧ (a2.toInt = -4 ∨ a2.toInt = -3 ∨ (0 ≤ a2.toInt ∧ a2.toInt < (fZ H 3 7).toInt)) ∧ ¬ a1.toInt = a2.toInt)) ∨ (((a1.toInt = -3 ∨ (0 ≤ a1.toInt ∧ a1.toInt < (fZ H 3 7).toInt)) ∧ (a2.toInt = -4 ∨ a2.toInt = -3 ∨ (0 ≤ a2.toInt ∧ a2.toInt < (fZ H 3 7).toInt)) ∧ ¬ a1.toInt = a2.toInt) ∧ v.toInt = smF (fun p => cnt (fun x => whr (fX H p) x = a1.toInt ∧ whr (fX H (p + 1)) x = a2.toInt) 40) (fZ H 25 2).toInt.toNat)))) := by
  obtain ⟨k1_1, ek1_1⟩ : ∃ z, z = fZ H 1 1 := ⟨_, rfl⟩
  have ik1_1 : k1_1.toInt = (fZ H 1 1).toInt := by rw [← ek1_1]
  have bk1_1 : 0 ≤ k1_1.toInt ∧ k1_1.toInt ≤ 900 := by rw [ek1_1]; exact fZ_of hI sx_1 rfl
  have mkfr : kpX H H := kpX_r
  refine gG_call [(0, .ref 0), (1, .int a1), (2, .int a2)] ⟨rfl, rfl, rfl, trivial⟩ ?_
  show gG 3 zB_137 (mzBlk zB_137 0) [(0, .ref 0), (1, .int a1), (2, .int a2)] [] H 0 0 _
  refine g_aload_n rfl ?_
  refine g_iload_n rfl ?_
  refine g_invvi hI sx_0 rfl rfl rfl rfl (w_151 a1 H hI hJ) (fun v91 H89 r90 => ?_)
  obtain ⟨rfl, bv91, p92⟩ := r90
  refine g_if_eq (fun c93 => ?_) (fun c93 => ?_)
  · refine g_iconst (by decide) (fun v94 kv94 => ?_)
    exact g_iret ⟨_, rfl, hI, hJ, (ek1_1.symm.trans ek1_1), mkfr, (Or.inl ⟨by omega, by omega⟩)⟩
  · refine g_aload_n rfl ?_
    refine g_iload_n rfl ?_
    refine g_invvi hI sx_0 rfl rfl rfl rfl (w_152 a2 H hI hJ) (fun v97 H95 r96 => ?_)
    obtain ⟨rfl, bv97, p98⟩ := r96
    refine g_if_eq (fun c99 => ?_) (fun c99 => ?_)
    · refine g_iconst (by decide) (fun v100 kv100 => ?_)
      exact g_iret ⟨_, rfl, hI, hJ, (ek1_1.symm.trans ek1_1), mkfr, (Or.inl ⟨by omega, by omega⟩)⟩
    · refine g_iload_n rfl ?_
      refine g_iload_n rfl ?_
      refine g_if2_ne (fun c101 => ?_) (fun c101 => ?_)
      · refine g_aload_n rfl ?_
        refine g_gfr hI sx_0 rfl ?_
        refine g_iload_n rfl ?_
        refine g_iload_n rfl ?_
        refine g_invvi hI sx_24 rfl rfl rfl rfl (w_61 a1 a2 H hI hJ hp0) (fun v104 H102 r103 => ?_)
        obtain ⟨hIH102, hJH102, w105, m106, p107⟩ := r103
        have e108 : k1_1 = fZ H102 1 1 := ek1_1.trans w105.symm
        have m109 : kpX H H102 := kpX_t mkfr m106
        exact g_iret ⟨_, rfl, hIH102, hJH102, (e108.symm.trans ek1_1), m109, (Or.inr ⟨by omega, p107⟩)⟩
      · refine g_nop ?_
        refine g_iconst (by decide) (fun v110 kv110 => ?_)
        exact g_iret ⟨_, rfl, hI, hJ, (ek1_1.symm.trans ek1_1), mkfr, (Or.inl ⟨by omega, by omega⟩)⟩
