set_option maxRecDepth 4000 in
set_option maxHeartbeats 4000000 in
/-- X5.mostHeld -/
theorem w_66  (a1 : Int32) (ha1 : 0 ≤ a1.toInt ∧ a1.toInt ≤ 39) (H : mzH) (hI : gI SX H) (hJ : JX H) (hp0 : gdX H) : gCall 66 [.ref 24, .int a1] H (gRi (fun v H' => gI SX H' ∧ JX H' ∧ fZ H' 1 1 = fZ H 1 1 ∧ kpX H H' ∧ v.toInt = (if (fX H (fZ H 25 2).toInt.toNat).kd a1.toInt.toNat = -1 then -2 else mxF (fun p => cnt (fun x => inn (fX H (p + 1)) x a1.toInt = 1) 40) (fZ H 25 2).toInt.toNat))) := by
  obtain ⟨k1_1, ek1_1⟩ : ∃ z, z = fZ H 1 1 := ⟨_, rfl⟩
  have ik1_1 : k1_1.toInt = (fZ H 1 1).toInt := by rw [← ek1_1]
  have bk1_1 : 0 ≤ k1_1.toInt ∧ k1_1.toInt ≤ 900 := by rw [ek1_1]; exact fZ_of hI sx_1 rfl
  have mkfr : kpX H H := kpX_r
  refine gG_call [(0, .ref 24), (1, .int a1)] ⟨rfl, rfl, trivial⟩ ?_
  show gG 4 zB_66 (mzBlk zB_66 0) [(0, .ref 24), (1, .int a1)] [] H 0 0 _
  refine g_aload_n rfl ?_
  refine g_gfr hI sx_24 rfl ?_
  refine g_invvv hI sx_28 rfl rfl rfl rfl (w_83 28 zWo_28 H hI hJ) (fun H443 r444 => ?_)
  obtain ⟨hIH443, hJH443, w445, m446, p447⟩ := r444
  have e448 : k1_1 = fZ H443 1 1 := ek1_1.trans w445.symm
  have m449 : kpX H H443 := kpX_t mkfr (kpX_W (by decide) m446)
  refine g_iconst (by decide) (fun v450 kv450 => ?_)
  refine g_istore_n (l' := [(0, .ref 24), (1, .int a1), (2, .int v450)]) rfl rfl ?_
  refine g_iconst (by decide) (fun v451 kv451 => ?_)
  refine g_istore_n (l' := [(0, .ref 24), (1, .int a1), (2, .int v450), (3, .int v451)]) rfl rfl ?_
  refine g_nop ?_
  have L457 : ∀ (N : Nat) (v452 : Int32) (v453 : Int32) (H454 : mzH), gI SX H454 → JX H454 → k1_1 = fZ H454 1 1 → kpX H H454 → (0 ≤ v452.toInt ∧ v452.toInt ≤ 2147483647) → (0 ≤ v453.toInt ∧ v453.toInt ≤ 60) → v453.toInt ≤ (fZ H 25 2).toInt → wdX H454 28 (fX H v453.toInt.toNat) → v452.toInt = mxF (fun p => cnt (fun x => inn (fX H (p + 1)) x a1.toInt = 1) 40) v453.toInt.toNat → (60 - v453.toInt).toNat < N → gG 4 zB_66 (mzBlk zB_66 1) [(0, .ref 24), (1, .int a1), (2, .int v452), (3, .int v453)] [] H454 0 0 (gRi (fun v H' => gI SX H' ∧ JX H' ∧ fZ H' 1 1 = fZ H 1 1 ∧ kpX H H' ∧ v.toInt = (if (fX H (fZ H 25 2).toInt.toNat).kd a1.toInt.toNat = -1 then -2 else mxF (fun p => cnt (fun x => inn (fX H (p + 1)) x a1.toInt = 1) 40) (fZ H 25 2).toInt.toNat))) := by
    intro N
    induction N with
    | zero => intro v452 v453 H454 hIH454 hJH454 e455 m456 bv452 bv453 q0 q1 q2 hmL457; exact absurd hmL457 (Nat.not_lt_zero _)
    | succ N ihL457 =>
      intro v452 v453 H454 hIH454 hJH454 e455 m456 bv452 bv453 q0 q1 q2 hmL457
      refine g_iload_n rfl ?_
      refine g_aload_n rfl ?_
      refine g_gfr hIH454 sx_24 rfl ?_
      refine g_gfi hIH454 sx_25 rfl (fun v458 ev458 lv458 uv458 => ?_)
      have zv458 : v458.toInt = (fZ H 25 2).toInt := by rw [ev458, (m456 25 (by decide)).1]
      refine g_if2_ge (fun c459 => ?_) (fun c459 => ?_)
      · refine g_aload_n rfl ?_
        refine g_gfr hIH454 sx_24 rfl ?_
        refine g_iload_n rfl ?_
        refine g_invvi hIH454 sx_28 rfl rfl rfl rfl (w_88 28 zWo_28 a1 (by omega) H454 hIH454 hJH454 q1) (fun v462 H460 r461 => ?_)
        obtain ⟨rfl, bv462, p463⟩ := r461
        refine g_if_eq (fun c464 => ?_) (fun c464 => ?_)
        · refine g_bipush (by decide) (fun v465 kv465 => ?_)
          refine g_nop ?_
          exact g_iret ⟨_, rfl, hIH454, hJH454, (e455.symm.trans ek1_1), m456, (by rw [show (fZ H 25 2).toInt.toNat = v453.toInt.toNat by omega]; first | (rw [if_pos (by omega)]; omega) | (rw [if_neg (by omega)]; omega))⟩
        · refine g_iload_n rfl ?_
          refine g_goto ?_
          exact g_iret ⟨_, rfl, hIH454, hJH454, (e455.symm.trans ek1_1), m456, (by rw [show (fZ H 25 2).toInt.toNat = v453.toInt.toNat by omega]; first | (rw [if_pos (by omega)]; omega) | (rw [if_neg (by omega)]; omega))⟩
      · refine g_aload_n rfl ?_
        refine g_iload_n rfl ?_
        refine g_invvi hIH454 sx_24 rfl rfl rfl rfl (w_53 v453 (by omega) H454 hIH454 hJH454 q1 (hp0.2 v453.toInt.toNat (by omega)).1 (hp0.2 v453.toInt.toNat (by omega)).2 (by rw [(m456 26 (by decide)).2, (m456 27 (by decide)).2]; exact (hp0.1 v453.toInt.toNat (by omega)).1) (by rw [(m456 7 (by decide)).2, (m456 27 (by decide)).2]; exact (hp0.1 v453.toInt.toNat (by omega)).2)) (fun v468 H466 r467 => ?_)
        obtain ⟨hIH466, hJH466, w469, m470, p471, p472⟩ := r467
        have e473 : k1_1 = fZ H466 1 1 := e455.trans w469.symm
        have m474 : kpX H H466 := kpX_t m456 m470
        have wzv453 : wdX H466 28 (fX H (v453.toInt.toNat + 1)) := gx_s2 m456 p471 rfl
        have vdv453 := gv_s2 (p := v453.toInt.toNat) m456 p472
        refine g_pop rfl ?_
        refine g_iload_n rfl ?_
        refine g_aload_n rfl ?_
        refine g_gfr hIH466 sx_24 rfl ?_
        refine g_iload_n rfl ?_
        refine g_invvl hIH466 sx_28 rfl rfl rfl rfl (w_104 28 zWo_28 a1 H466 hIH466 hJH466 wzv453) (fun v477 H475 r476 => ?_)
        obtain ⟨rfl, p478⟩ := r476
        refine g_invti rfl rfl rfl (w_253 v477 H466 hIH466 hJH466) (fun v481 H479 r480 => ?_)
        obtain ⟨rfl, p482⟩ := r480
        rw [cn_set p478] at p482
        have cbv481 := cnt_b (p := (fun x => inn (fX H (v453.toInt.toNat + 1)) x a1.toInt = 1)) 40
        refine g_max rfl (fun v483 av483 bv483 dv483 => ?_)
        refine g_istore_n (l' := [(0, .ref 24), (1, .int a1), (2, .int v483), (3, .int v453)]) rfl rfl ?_
        refine g_iinc (l' := (fun v484 => [(0, .ref 24), (1, .int a1), (2, .int v483), (3, .int v484)])) rfl rfl (by decide) (by omega) (fun _ => rfl) (fun v484 ev484 => ?_)
        refine g_goto ?_
        exact ihL457 v483 v484 H466 hIH466 hJH466 e473 m474 (by have := gz_any v483; omega) (by omega) (by omega) (by rw [show v484.toInt.toNat = v453.toInt.toNat + 1 by omega]; exact wzv453) (mx_s q2 (by omega) (by show (_ < cnt _ 40 ∧ _ = cnt _ 40) ∨ (cnt _ 40 ≤ _ ∧ _ = _); omega)) (by omega)
  exact L457 _ v450 v451 H443 hIH443 hJH443 e448 m449 (by have := gz_any v450; omega) (by omega) (by have := fZ_of hI sx_25 (f := 2) rfl; omega) (by rw [kv451]; exact p447) (mx_0 (by omega) (by omega)) (Nat.lt_succ_self _)
set_option maxRecDepth 4000 in
set_option maxHeartbeats 4000000 in
/-- X9.most -/
theorem w_133  (a1 : Int32) (H : mzH) (hI : gI SX H) (hJ : JX H) (hp0 : gdX H) : gCall 133 [.ref 0, .int a1] H (gRi (fun v H' => gI SX H' ∧ JX H' ∧ fZ H' 1 1 = fZ H 1 1 ∧ kpX H H' ∧ ((v.toInt = -1 ∧ ¬ ((0 ≤ a1.toInt ∧ a1.toInt ≤ 39))) ∨ (((0 ≤ a1.toInt ∧ a1.toInt ≤ 39)) ∧ v.toInt = (if (fX H (fZ H 25 2).toInt.toNat).kd a1.toInt.toNat = -1 then -2 else mxF (fun p => cnt (fun x => inn (fX H (p + 1)) x a1.toInt = 1) 40) (fZ H 25 2).toInt.toNat))))) := by
  obtain ⟨k1_1, ek1_1⟩ : ∃ z, z = fZ H 1 1 := ⟨_, rfl⟩
  have ik1_1 : k1_1.toInt = (fZ H 1 1).toInt := by rw [← ek1_1]
  have bk1_1 : 0 ≤ k1_1.toInt ∧ k1_1.toInt ≤ 900 := by rw [ek1_1]; exact fZ_of hI sx_1 rfl
  have mkfr : kpX H H := kpX_r
  refine gG_call [(0, .ref 0), (1, .int a1)] ⟨rfl, rfl, trivial⟩ ?_
  show gG 2 zB_133 (mzBlk zB_133 0) [(0, .ref 0), (1, .int a1)] [] H 0 0 _
  refine g_iload_n rfl ?_
  refine g_invti rfl rfl rfl (w_149 a1 H hI hJ) (fun v59 H57 r58 => ?_)
  obtain ⟨rfl, bv59, p60⟩ := r58
  refine g_if_eq (fun c61 => ?_) (fun c61 => ?_)
  · refine g_iconst (by decide) (fun v62 kv62 => ?_)
    refine g_nop ?_
    exact g_iret ⟨_, rfl, hI, hJ, (ek1_1.symm.trans ek1_1), mkfr, (Or.inl ⟨by omega, by omega⟩)⟩
  · refine g_aload_n rfl ?_
    refine g_gfr hI sx_0 rfl ?_
    refine g_iload_n rfl ?_
    refine g_invvi hI sx_24 rfl rfl rfl rfl (w_66 a1 (by omega) H hI hJ hp0) (fun v65 H63 r64 => ?_)
    obtain ⟨hIH63, hJH63, w66, m67, p68⟩ := r64
    have e69 : k1_1 = fZ H63 1 1 := ek1_1.trans w66.symm
    have m70 : kpX H H63 := kpX_t mkfr m67
    refine g_goto ?_
    exact g_iret ⟨_, rfl, hIH63, hJH63, (e69.symm.trans ek1_1), m70, (Or.inr ⟨by omega, p68⟩)⟩
