set_option maxRecDepth 4000 in
set_option maxHeartbeats 4000000 in
/-- X5.hoursOnWays -/
theorem w_62  (a1 : Int32) (ha1 : 0 ≤ a1.toInt ∧ a1.toInt ≤ 39) (H : mzH) (hI : gI SX H) (hJ : JX H) (hp0 : gdX H) (hp1 : wyB H) : gCall 62 [.ref 24, .int a1] H (gRi (fun v H' => gI SX H' ∧ JX H' ∧ fZ H' 1 1 = fZ H 1 1 ∧ kpX H H' ∧ v.toInt = (if (fX H (fZ H 25 2).toInt.toNat).kd a1.toInt.toNat = -1 then -2 else (tvS (fun p => whr (fX H (p + 1)) a1.toInt.toNat) (wyX H) (fZ H 25 2).toInt.toNat).2))) := by
  obtain ⟨k1_1, ek1_1⟩ : ∃ z, z = fZ H 1 1 := ⟨_, rfl⟩
  have ik1_1 : k1_1.toInt = (fZ H 1 1).toInt := by rw [← ek1_1]
  have bk1_1 : 0 ≤ k1_1.toInt ∧ k1_1.toInt ≤ 900 := by rw [ek1_1]; exact fZ_of hI sx_1 rfl
  have mkfr : kpX H H := kpX_r
  refine gG_call [(0, .ref 24), (1, .int a1)] ⟨rfl, rfl, trivial⟩ ?_
  show gG 6 zB_62 (mzBlk zB_62 0) [(0, .ref 24), (1, .int a1)] [] H 0 0 _
  refine g_aload_n rfl ?_
  refine g_gfr hI sx_24 rfl ?_
  refine g_invvv hI sx_28 rfl rfl rfl rfl (w_83 28 zWo_28 H hI hJ) (fun H517 r518 => ?_)
  obtain ⟨hIH517, hJH517, w519, m520, p521⟩ := r518
  have e522 : k1_1 = fZ H517 1 1 := ek1_1.trans w519.symm
  have m523 : kpX H H517 := kpX_t mkfr (kpX_W (by decide) m520)
  refine g_bipush (by decide) (fun v524 kv524 => ?_)
  refine g_istore_n (l' := [(0, .ref 24), (1, .int a1), (2, .int v524)]) rfl rfl ?_
  refine g_iconst (by decide) (fun v525 kv525 => ?_)
  refine g_istore_n (l' := [(0, .ref 24), (1, .int a1), (2, .int v524), (3, .int v525)]) rfl rfl ?_
  refine g_iconst (by decide) (fun v526 kv526 => ?_)
  refine g_istore (l' := [(0, .ref 24), (1, .int a1), (2, .int v524), (3, .int v525), (4, .int v526)]) rfl rfl ?_
  refine g_nop ?_
  have L533 : ∀ (N : Nat) (v527 : Int32) (v528 : Int32) (v529 : Int32) (H530 : mzH), gI SX H530 → JX H530 → k1_1 = fZ H530 1 1 → kpX H H530 → (-2 ≤ v527.toInt ∧ v527.toInt ≤ 2147483647) → (0 ≤ v528.toInt ∧ v528.toInt ≤ 1520640) → (0 ≤ v529.toInt ∧ v529.toInt ≤ 60) → v529.toInt ≤ (fZ H 25 2).toInt → wdX H530 28 (fX H v529.toInt.toNat) → v527.toInt = (tvS (fun p => whr (fX H (p + 1)) a1.toInt.toNat) (wyX H) v529.toInt.toNat).1 → v528.toInt = (tvS (fun p => whr (fX H (p + 1)) a1.toInt.toNat) (wyX H) v529.toInt.toNat).2 → (0 ≤ v528.toInt ∧ v528.toInt ≤ 25344 * v529.toInt) → (60 - v529.toInt).toNat < N → gG 6 zB_62 (mzBlk zB_62 1) [(0, .ref 24), (1, .int a1), (2, .int v527), (3, .int v528), (4, .int v529)] [] H530 0 0 (gRi (fun v H' => gI SX H' ∧ JX H' ∧ fZ H' 1 1 = fZ H 1 1 ∧ kpX H H' ∧ v.toInt = (if (fX H (fZ H 25 2).toInt.toNat).kd a1.toInt.toNat = -1 then -2 else (tvS (fun p => whr (fX H (p + 1)) a1.toInt.toNat) (wyX H) (fZ H 25 2).toInt.toNat).2))) := by
    intro N
    induction N with
    | zero => intro v527 v528 v529 H530 hIH530 hJH530 e531 m532 bv527 bv528 bv529 q0 q1 q2 q3 q4 hmL533; exact absurd hmL533 (Nat.not_lt_zero _)
    | succ N ihL533 =>
      intro v527 v528 v529 H530 hIH530 hJH530 e531 m532 bv527 bv528 bv529 q0 q1 q2 q3 q4 hmL533
      refine g_iload rfl ?_
      refine g_aload_n rfl ?_
      refine g_gfr hIH530 sx_24 rfl ?_
      refine g_gfi hIH530 sx_25 rfl (fun v534 ev534 lv534 uv534 => ?_)
      have zv534 : v534.toInt = (fZ H 25 2).toInt := by rw [ev534, (m532 25 (by decide)).1]
      refine g_if2_ge (fun c535 => ?_) (fun c535 => ?_)
      · refine g_aload_n rfl ?_
        refine g_gfr hIH530 sx_24 rfl ?_
        refine g_iload_n rfl ?_
        refine g_invvi hIH530 sx_28 rfl rfl rfl rfl (w_88 28 zWo_28 a1 (by omega) H530 hIH530 hJH530 q1) (fun v538 H536 r537 => ?_)
        obtain ⟨rfl, bv538, p539⟩ := r537
        refine g_if_eq (fun c540 => ?_) (fun c540 => ?_)
        · refine g_bipush (by decide) (fun v541 kv541 => ?_)
          refine g_nop ?_
          exact g_iret ⟨_, rfl, hIH530, hJH530, (e531.symm.trans ek1_1), m532, (by rw [show (fZ H 25 2).toInt.toNat = v529.toInt.toNat by omega]; first | (rw [if_pos (by omega)]; omega) | (rw [if_neg (by omega)]; omega))⟩
        · refine g_iload_n rfl ?_
          refine g_goto ?_
          exact g_iret ⟨_, rfl, hIH530, hJH530, (e531.symm.trans ek1_1), m532, (by rw [show (fZ H 25 2).toInt.toNat = v529.toInt.toNat by omega]; first | (rw [if_pos (by omega)]; omega) | (rw [if_neg (by omega)]; omega))⟩
      · refine g_aload_n rfl ?_
        refine g_iload rfl ?_
        refine g_invvi hIH530 sx_24 rfl rfl rfl rfl (w_53 v529 (by omega) H530 hIH530 hJH530 q1 (hp0.2 v529.toInt.toNat (by omega)).1 (hp0.2 v529.toInt.toNat (by omega)).2 (by rw [(m532 26 (by decide)).2, (m532 27 (by decide)).2]; exact (hp0.1 v529.toInt.toNat (by omega)).1) (by rw [(m532 7 (by decide)).2, (m532 27 (by decide)).2]; exact (hp0.1 v529.toInt.toNat (by omega)).2)) (fun v544 H542 r543 => ?_)
        obtain ⟨hIH542, hJH542, w545, m546, p547, p548⟩ := r543
        have e549 : k1_1 = fZ H542 1 1 := e531.trans w545.symm
        have m550 : kpX H H542 := kpX_t m532 m546
        have wzv529 : wdX H542 28 (fX H (v529.toInt.toNat + 1)) := gx_s2 m532 p547 rfl
        have vdv529 := gv_s2 (p := v529.toInt.toNat) m532 p548
        refine g_pop rfl ?_
        refine g_aload_n rfl ?_
        refine g_gfr hIH542 sx_24 rfl ?_
        refine g_iload_n rfl ?_
        refine g_invvi hIH542 sx_28 rfl rfl rfl rfl (w_91 28 zWo_28 a1 (by omega) H542 hIH542 hJH542 wzv529) (fun v553 H551 r552 => ?_)
        obtain ⟨rfl, p554⟩ := r552
        refine g_istore (l' := [(0, .ref 24), (1, .int a1), (2, .int v527), (3, .int v528), (4, .int v529), (5, .int v553)]) rfl rfl ?_
        refine g_iload rfl ?_
        refine g_if_lt (fun c555 => ?_) (fun c555 => ?_)
        · refine g_iinc (l' := (fun v556 => [(0, .ref 24), (1, .int a1), (2, .int v527), (3, .int v528), (4, .int v556), (5, .int v553)])) rfl rfl (by decide) (by omega) (fun _ => rfl) (fun v556 ev556 => ?_)
          refine g_goto ?_
          refine gG_pick [0, 1, 2, 3, 4] (l' := [(0, .ref 24), (1, .int a1), (2, .int v527), (3, .int v528), (4, .int v556)]) rfl ?_
          exact ihL533 v527 v528 v556 H542 hIH542 hJH542 e549 m550 (by have := gz_any v527; omega) (by omega) (by omega) (by omega) (by rw [show v556.toInt.toNat = v529.toInt.toNat + 1 by omega]; exact wzv529) (tvs_1 q2 (by omega) (by show whr _ _ < 0; omega)) (tvs_2 q3 (by omega) (by show whr _ _ < 0; omega)) (by omega) (by omega)
        · refine g_iload_n rfl ?_
          refine g_iconst (by decide) (fun v557 kv557 => ?_)
          refine g_aload_n rfl ?_
          refine g_gfr hIH542 sx_24 rfl ?_
          refine g_iload_n rfl ?_
          refine g_iload rfl ?_
          refine g_invvi hIH542 sx_3 rfl rfl rfl rfl (w_17 v527 v553 H542 hIH542 hJH542) (fun v560 H558 r559 => ?_)
          obtain ⟨rfl, p561⟩ := r559
          rw [wyX_kp m550] at p561
          have wbv560 := hp1 v527.toInt v553.toInt
          refine g_max rfl (fun v562 av562 bv562 dv562 => ?_)
          refine g_iadd' (fun v563 ov563 => ?_)
          have sv563 : v563.toInt = v528.toInt + v562.toInt := gz_add_of ov563 (by omega)
          refine g_istore_n (l' := [(0, .ref 24), (1, .int a1), (2, .int v527), (3, .int v563), (4, .int v529), (5, .int v553)]) rfl rfl ?_
          refine g_iload rfl ?_
          refine g_istore_n (l' := [(0, .ref 24), (1, .int a1), (2, .int v553), (3, .int v563), (4, .int v529), (5, .int v553)]) rfl rfl ?_
          refine g_nop ?_
          refine g_iinc (l' := (fun v564 => [(0, .ref 24), (1, .int a1), (2, .int v553), (3, .int v563), (4, .int v564), (5, .int v553)])) rfl rfl (by decide) (by omega) (fun _ => rfl) (fun v564 ev564 => ?_)
          refine g_goto ?_
          refine gG_pick [0, 1, 2, 3, 4] (l' := [(0, .ref 24), (1, .int a1), (2, .int v553), (3, .int v563), (4, .int v564)]) rfl ?_
          exact ihL533 v553 v563 v564 H542 hIH542 hJH542 e549 m550 (by have := gz_any v553; omega) (by omega) (by omega) (by omega) (by rw [show v564.toInt.toNat = v529.toInt.toNat + 1 by omega]; exact wzv529) (tvn_1 (p := v529.toInt.toNat) (by omega) (by show ¬ whr _ _ < 0; omega) (by show _ = whr _ _; omega)) (tvn_2 q2 q3 (by omega) (by show ¬ whr _ _ < 0; omega) (by show _ = _ + mx0 (wyX H _ (whr _ _)); rw [← p554]; unfold mx0; split <;> omega)) (by omega) (by omega)
  exact L533 _ v524 v525 v526 H517 hIH517 hJH517 e522 m523 (by have := gz_any v524; omega) (by omega) (by omega) (by have := fZ_of hI sx_25 (f := 2) rfl; omega) (by rw [kv526]; exact p521) (tv0_1 (by omega) (by omega)) (tv0_2 (by omega) (by omega)) (by omega) (Nat.lt_succ_self _)
set_option maxRecDepth 4000 in
set_option maxHeartbeats 4000000 in
/-- X9.travelled -/
theorem w_145  (a1 : Int32) (H : mzH) (hI : gI SX H) (hJ : JX H) (hp0 : gdX H) (hp1 : wyB H) : gCall 145 [.ref 0, .int a1] H (gRi (fun v H' => gI SX H' ∧ JX H' ∧ fZ H' 1 1 = fZ H 1 1 ∧ kpX H H' ∧ ((v.toInt = -1 ∧ ¬ ((0 ≤ a1.toInt ∧ a1.toInt ≤ 39))) ∨ (((0 ≤ a1.toInt ∧ a1.toInt ≤ 39)) ∧ v.toInt = (if (fX H (fZ H 25 2).toInt.toNat).kd a1.toInt.toNat = -1 then -2 else (tvS (fun p => whr (fX H (p + 1)) a1.toInt.toNat) (wyX H) (fZ H 25 2).toInt.toNat).2))))) := by
  obtain ⟨k1_1, ek1_1⟩ : ∃ z, z = fZ H 1 1 := ⟨_, rfl⟩
  have ik1_1 : k1_1.toInt = (fZ H 1 1).toInt := by rw [← ek1_1]
  have bk1_1 : 0 ≤ k1_1.toInt ∧ k1_1.toInt ≤ 900 := by rw [ek1_1]; exact fZ_of hI sx_1 rfl
  have mkfr : kpX H H := kpX_r
  refine gG_call [(0, .ref 0), (1, .int a1)] ⟨rfl, rfl, trivial⟩ ?_
  show gG 2 zB_145 (mzBlk zB_145 0) [(0, .ref 0), (1, .int a1)] [] H 0 0 _
  refine g_iload_n rfl ?_
  refine g_invti rfl rfl rfl (w_149 a1 H hI hJ) (fun v59 H57 r58 => ?_)
  obtain ⟨rfl, bv59, p60⟩ := r58
  refine g_if_eq (fun c61 => ?_) (fun c61 => ?_)
  · refine g_iconst (by decide) (fun v62 kv62 => ?_)
    refine g_nop ?_
    exact g_iret ⟨_, rfl, hI, hJ, (ek1_1.symm.trans ek1_1), mkfr, (Or.inl ⟨by omega, by omega⟩)⟩
  · refine g_aload_n rfl ?_
    refine g_gfr hI sx_0 rfl ?_
    refine g_iload_n rfl ?_
    refine g_invvi hI sx_24 rfl rfl rfl rfl (w_62 a1 (by omega) H hI hJ hp0 hp1) (fun v65 H63 r64 => ?_)
    obtain ⟨hIH63, hJH63, w66, m67, p68⟩ := r64
    have e69 : k1_1 = fZ H63 1 1 := ek1_1.trans w66.symm
    have m70 : kpX H H63 := kpX_t mkfr m67
    refine g_goto ?_
    exact g_iret ⟨_, rfl, hIH63, hJH63, (e69.symm.trans ek1_1), m70, (Or.inr ⟨by omega, p68⟩)⟩
