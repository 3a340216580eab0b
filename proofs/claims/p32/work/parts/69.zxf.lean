set_option maxRecDepth 4000 in
set_option maxHeartbeats 4000000 in
/-- X5.busiest -/
theorem w_63  (a1 : Int32) (a2 : Int32) (ha2 : 0 ≤ a2.toInt ∧ a2.toInt ≤ 1) (H : mzH) (hI : gI SX H) (hJ : JX H) (hp0 : gdX H) : gCall 63 [.ref 24, .int a1, .int a2] H (gRi (fun v H' => gI SX H' ∧ JX H' ∧ fZ H' 1 1 = fZ H 1 1 ∧ kpX H H' ∧ v.toInt = bzA (bzS (fun p => cnt (fun x => whr (fX H (p + 1)) x = a1.toInt) 40) (hrX H) (fZ H 25 2).toInt.toNat) (if a2.toInt = 0 then 1 else 0))) := by
  obtain ⟨k1_1, ek1_1⟩ : ∃ z, z = fZ H 1 1 := ⟨_, rfl⟩
  have ik1_1 : k1_1.toInt = (fZ H 1 1).toInt := by rw [← ek1_1]
  have bk1_1 : 0 ≤ k1_1.toInt ∧ k1_1.toInt ≤ 900 := by rw [ek1_1]; exact fZ_of hI sx_1 rfl
  have mkfr : kpX H H := kpX_r
  refine gG_call [(0, .ref 24), (1, .int a1), (2, .int a2)] ⟨rfl, rfl, rfl, trivial⟩ ?_
  show gG 7 zB_63 (mzBlk zB_63 0) [(0, .ref 24), (1, .int a1), (2, .int a2)] [] H 0 0 _
  refine g_aload_n rfl ?_
  refine g_gfr hI sx_24 rfl ?_
  refine g_invvv hI sx_28 rfl rfl rfl rfl (w_83 28 zWo_28 H hI hJ) (fun H503 r504 => ?_)
  obtain ⟨hIH503, hJH503, w505, m506, p507⟩ := r504
  have e508 : k1_1 = fZ H503 1 1 := ek1_1.trans w505.symm
  have m509 : kpX H H503 := kpX_t mkfr (kpX_W (by decide) m506)
  refine g_iconst (by decide) (fun v510 kv510 => ?_)
  refine g_istore_n (l' := [(0, .ref 24), (1, .int a1), (2, .int a2), (3, .int v510)]) rfl rfl ?_
  refine g_bipush (by decide) (fun v511 kv511 => ?_)
  refine g_istore (l' := [(0, .ref 24), (1, .int a1), (2, .int a2), (3, .int v510), (4, .int v511)]) rfl rfl ?_
  refine g_iconst (by decide) (fun v512 kv512 => ?_)
  refine g_istore (l' := [(0, .ref 24), (1, .int a1), (2, .int a2), (3, .int v510), (4, .int v511), (5, .int v512)]) rfl rfl ?_
  refine g_nop ?_
  have L519 : ∀ (N : Nat) (v513 : Int32) (v514 : Int32) (v515 : Int32) (H516 : mzH), gI SX H516 → JX H516 → k1_1 = fZ H516 1 1 → kpX H H516 → (-1 ≤ v513.toInt ∧ v513.toInt ≤ 2147483647) → (0 ≤ v515.toInt ∧ v515.toInt ≤ 60) → v515.toInt ≤ (fZ H 25 2).toInt → wdX H516 28 (fX H v515.toInt.toNat) → (v513.toInt = (bzS (fun p => cnt (fun x => whr (fX H (p + 1)) x = a1.toInt) 40) (hrX H) v515.toInt.toNat).1 ∧ v514.toInt = (bzS (fun p => cnt (fun x => whr (fX H (p + 1)) x = a1.toInt) 40) (hrX H) v515.toInt.toNat).2) → -1 ≤ v513.toInt → (60 - v515.toInt).toNat < N → gG 7 zB_63 (mzBlk zB_63 1) [(0, .ref 24), (1, .int a1), (2, .int a2), (3, .int v513), (4, .int v514), (5, .int v515)] [] H516 0 0 (gRi (fun v H' => gI SX H' ∧ JX H' ∧ fZ H' 1 1 = fZ H 1 1 ∧ kpX H H' ∧ v.toInt = bzA (bzS (fun p => cnt (fun x => whr (fX H (p + 1)) x = a1.toInt) 40) (hrX H) (fZ H 25 2).toInt.toNat) (if a2.toInt = 0 then 1 else 0))) := by
    intro N
    induction N with
    | zero => intro v513 v514 v515 H516 hIH516 hJH516 e517 m518 bv513 bv515 q0 q1 q2 q3 hmL519; exact absurd hmL519 (Nat.not_lt_zero _)
    | succ N ihL519 =>
      intro v513 v514 v515 H516 hIH516 hJH516 e517 m518 bv513 bv515 q0 q1 q2 q3 hmL519
      refine g_iload rfl ?_
      refine g_aload_n rfl ?_
      refine g_gfr hIH516 sx_24 rfl ?_
      refine g_gfi hIH516 sx_25 rfl (fun v520 ev520 lv520 uv520 => ?_)
      have zv520 : v520.toInt = (fZ H 25 2).toInt := by rw [ev520, (m518 25 (by decide)).1]
      refine g_if2_ge (fun c521 => ?_) (fun c521 => ?_)
      · refine g_iload_n rfl ?_
        refine g_if_eq (fun c522 => ?_) (fun c522 => ?_)
        · refine g_iload rfl ?_
          refine g_nop ?_
          exact g_iret ⟨_, rfl, hIH516, hJH516, (e517.symm.trans ek1_1), m518, (by rw [show (fZ H 25 2).toInt.toNat = v515.toInt.toNat by omega]; unfold bzA; rw [if_pos (show a2.toInt = 0 by omega)]; rw [if_neg (by decide)]; exact q2.2)⟩
        · refine g_iconst (by decide) (fun v523 kv523 => ?_)
          refine g_iload_n rfl ?_
          refine g_max rfl (fun v524 av524 bv524 dv524 => ?_)
          refine g_goto ?_
          exact g_iret ⟨_, rfl, hIH516, hJH516, (e517.symm.trans ek1_1), m518, (by rw [show (fZ H 25 2).toInt.toNat = v515.toInt.toNat by omega]; unfold bzA; rw [if_neg (show ¬ a2.toInt = 0 by omega)]; rw [if_pos rfl]; split <;> omega)⟩
      · refine g_aload_n rfl ?_
        refine g_iload rfl ?_
        refine g_invvi hIH516 sx_24 rfl rfl rfl rfl (w_53 v515 (by omega) H516 hIH516 hJH516 q1 (hp0.2 v515.toInt.toNat (by omega)).1 (hp0.2 v515.toInt.toNat (by omega)).2 (by rw [(m518 26 (by decide)).2, (m518 27 (by decide)).2]; exact (hp0.1 v515.toInt.toNat (by omega)).1) (by rw [(m518 7 (by decide)).2, (m518 27 (by decide)).2]; exact (hp0.1 v515.toInt.toNat (by omega)).2)) (fun v527 H525 r526 => ?_)
        obtain ⟨hIH525, hJH525, w528, m529, p530, p531⟩ := r526
        have e532 : k1_1 = fZ H525 1 1 := e517.trans w528.symm
        have m533 : kpX H H525 := kpX_t m518 m529
        have wzv515 : wdX H525 28 (fX H (v515.toInt.toNat + 1)) := gx_s2 m518 p530 rfl
        have vdv515 := gv_s2 (p := v515.toInt.toNat) m518 p531
        refine g_pop rfl ?_
        refine g_aload_n rfl ?_
        refine g_gfr hIH525 sx_24 rfl ?_
        refine g_iload_n rfl ?_
        refine g_invvl hIH525 sx_28 rfl rfl rfl rfl (w_105 28 zWo_28 a1 H525 hIH525 hJH525 wzv515) (fun v536 H534 r535 => ?_)
        obtain ⟨rfl, p537⟩ := r535
        refine g_invti rfl rfl rfl (w_253 v536 H525 hIH525 hJH525) (fun v540 H538 r539 => ?_)
        obtain ⟨rfl, p541⟩ := r539
        rw [cn_set p537] at p541
        have cbv540 := cnt_b (p := (fun x => whr (fX H (v515.toInt.toNat + 1)) x = a1.toInt)) 40
        refine g_istore (l' := [(0, .ref 24), (1, .int a1), (2, .int a2), (3, .int v513), (4, .int v514), (5, .int v515), (6, .int v540)]) rfl rfl ?_
        refine g_iload rfl ?_
        refine g_iload_n rfl ?_
        refine g_if2_le (fun c542 => ?_) (fun c542 => ?_)
        · refine g_iinc (l' := (fun v543 => [(0, .ref 24), (1, .int a1), (2, .int a2), (3, .int v513), (4, .int v514), (5, .int v543), (6, .int v540)])) rfl rfl (by decide) (by omega) (fun _ => rfl) (fun v543 ev543 => ?_)
          refine g_goto ?_
          refine gG_pick [0, 1, 2, 3, 4, 5] (l' := [(0, .ref 24), (1, .int a1), (2, .int a2), (3, .int v513), (4, .int v514), (5, .int v543)]) rfl ?_
          exact ihL519 v513 v514 v543 H525 hIH525 hJH525 e532 m533 (by have := gz_any v513; omega) (by omega) (by omega) (by rw [show v543.toInt.toNat = v515.toInt.toNat + 1 by omega]; exact wzv515) (bz_s q2 (by omega) (by show cnt _ 40 ≤ _; omega)) (by omega) (by omega)
        · refine g_iload rfl ?_
          refine g_istore_n (l' := [(0, .ref 24), (1, .int a1), (2, .int a2), (3, .int v540), (4, .int v514), (5, .int v515), (6, .int v540)]) rfl rfl ?_
          refine g_aload_n rfl ?_
          refine g_gfr hIH525 sx_24 rfl ?_
          refine g_iload rfl ?_
          refine g_invvi hIH525 sx_25 rfl rfl rfl rfl (w_27 25 zCo_25 v515 (by omega) H525 hIH525 hJH525) (fun v546 H544 r545 => ?_)
          obtain ⟨rfl, p547⟩ := r545
          have hzv546 : v546.toInt = hrX H v515.toInt.toNat := ha_kp m533 p547
          have hyv546 : 0 ≤ v546.toInt ∧ v546.toInt ≤ 999 := by rw [hzv546]; exact (hp0.1 v515.toInt.toNat (by omega)).1
          refine g_istore (l' := [(0, .ref 24), (1, .int a1), (2, .int a2), (3, .int v540), (4, .int v546), (5, .int v515), (6, .int v540)]) rfl rfl ?_
          refine g_nop ?_
          refine g_iinc (l' := (fun v548 => [(0, .ref 24), (1, .int a1), (2, .int a2), (3, .int v540), (4, .int v546), (5, .int v548), (6, .int v540)])) rfl rfl (by decide) (by omega) (fun _ => rfl) (fun v548 ev548 => ?_)
          refine g_goto ?_
          refine gG_pick [0, 1, 2, 3, 4, 5] (l' := [(0, .ref 24), (1, .int a1), (2, .int a2), (3, .int v540), (4, .int v546), (5, .int v548)]) rfl ?_
          exact ihL519 v540 v546 v548 H525 hIH525 hJH525 e532 m533 (by have := gz_any v540; omega) (by omega) (by omega) (by rw [show v548.toInt.toNat = v515.toInt.toNat + 1 by omega]; exact wzv515) (bz_n q2 (by omega) (by show _ < cnt _ 40; omega) (by show _ = cnt _ 40; omega) (by omega)) (by omega) (by omega)
  exact L519 _ v510 v511 v512 H503 hIH503 hJH503 e508 m509 (by have := gz_any v510; omega) (by omega) (by have := fZ_of hI sx_25 (f := 2) rfl; omega) (by rw [kv512]; exact p507) (bz_0 (by omega) (by omega) (by omega)) (by omega) (Nat.lt_succ_self _)
set_option maxRecDepth 4000 in
set_option maxHeartbeats 4000000 in
/-- X9.busy -/
theorem w_144  (a1 : Int32) (a2 : Int32) (H : mzH) (hI : gI SX H) (hJ : JX H) (hp0 : gdX H) : gCall 144 [.ref 0, .int a1, .int a2] H (gRi (fun v H' => gI SX H' ∧ JX H' ∧ fZ H' 1 1 = fZ H 1 1 ∧ kpX H H' ∧ ((v.toInt = -1 ∧ ¬ ((a1.toInt = -4 ∨ a1.toInt = -3 ∨ (0 ≤ a1.toInt ∧ a1.toInt < (fZ H 3 7).toInt)) ∧ (0 ≤ a2.toInt ∧ a2.toInt ≤ 1))) ∨ (((a1.toInt = -4 ∨ a1.toInt = -3 ∨ (0 ≤ a1.toInt ∧ a1.toInt < (fZ H 3 7).toInt)) ∧ (0 ≤ a2.toInt ∧ a2.toInt ≤ 1)) ∧ v.toInt = bzA (bzS (fun p => cnt (fun x => whr (fX H (p + 1)) x = a1.toInt) 40) (hrX H) (fZ H 25 2).toInt.toNat) a2.toInt)))) := by
  obtain ⟨k1_1, ek1_1⟩ : ∃ z, z = fZ H 1 1 := ⟨_, rfl⟩
  have ik1_1 : k1_1.toInt = (fZ H 1 1).toInt := by rw [← ek1_1]
  have bk1_1 : 0 ≤ k1_1.toInt ∧ k1_1.toInt ≤ 900 := by rw [ek1_1]; exact fZ_of hI sx_1 rfl
  have mkfr : kpX H H := kpX_r
  refine gG_call [(0, .ref 0), (1, .int a1), (2, .int a2)] ⟨rfl, rfl, rfl, trivial⟩ ?_
  show gG 3 zB_144 (mzBlk zB_144 0) [(0, .ref 0), (1, .int a1), (2, .int a2)] [] H 0 0 _
  refine g_aload_n rfl ?_
  refine g_iload_n rfl ?_
  refine g_invvi hI sx_0 rfl rfl rfl rfl (w_152 a1 H hI hJ) (fun v123 H121 r122 => ?_)
  obtain ⟨rfl, bv123, p124⟩ := r122
  refine g_if_eq (fun c125 => ?_) (fun c125 => ?_)
  · refine g_iconst (by decide) (fun v126 kv126 => ?_)
    exact g_iret ⟨_, rfl, hI, hJ, (ek1_1.symm.trans ek1_1), mkfr, (Or.inl ⟨by omega, by omega⟩)⟩
  · refine g_iload_n rfl ?_
    refine g_if_lt (fun c127 => ?_) (fun c127 => ?_)
    · refine g_iconst (by decide) (fun v128 kv128 => ?_)
      exact g_iret ⟨_, rfl, hI, hJ, (ek1_1.symm.trans ek1_1), mkfr, (Or.inl ⟨by omega, by omega⟩)⟩
    · refine g_iload_n rfl ?_
      refine g_iconst (by decide) (fun v129 kv129 => ?_)
      refine g_if2_le (fun c130 => ?_) (fun c130 => ?_)
      · refine g_aload_n rfl ?_
        refine g_gfr hI sx_0 rfl ?_
        refine g_iload_n rfl ?_
        refine g_iload_n rfl ?_
        refine g_if_ne (fun c131 => ?_) (fun c131 => ?_)
        · refine g_iconst (by decide) (fun v132 kv132 => ?_)
          refine g_nop ?_
          refine g_invvi hI sx_24 rfl rfl rfl rfl (w_63 a1 v132 (by omega) H hI hJ hp0) (fun v135 H133 r134 => ?_)
          obtain ⟨hIH133, hJH133, w136, m137, p138⟩ := r134
          have e139 : k1_1 = fZ H133 1 1 := ek1_1.trans w136.symm
          have m140 : kpX H H133 := kpX_t mkfr m137
          exact g_iret ⟨_, rfl, hIH133, hJH133, (e139.symm.trans ek1_1), m140, (Or.inr ⟨by omega, by rw [p138]; congr 1; first | (rw [if_pos (by omega)]; omega) | (rw [if_neg (by omega)]; omega)⟩)⟩
        · refine g_iconst (by decide) (fun v141 kv141 => ?_)
          refine g_goto ?_
          refine g_invvi hI sx_24 rfl rfl rfl rfl (w_63 a1 v141 (by omega) H hI hJ hp0) (fun v144 H142 r143 => ?_)
          obtain ⟨hIH142, hJH142, w145, m146, p147⟩ := r143
          have e148 : k1_1 = fZ H142 1 1 := ek1_1.trans w145.symm
          have m149 : kpX H H142 := kpX_t mkfr m146
          exact g_iret ⟨_, rfl, hIH142, hJH142, (e148.symm.trans ek1_1), m149, (Or.inr ⟨by omega, by rw [p147]; congr 1; first | (rw [if_pos (by omega)]; omega) | (rw [if_neg (by omega)]; omega)⟩)⟩
      · refine g_nop ?_
        refine g_iconst (by decide) (fun v150 kv150 => ?_)
        exact g_iret ⟨_, rfl, hI, hJ, (ek1_1.symm.trans ek1_1), mkfr, (Or.inl ⟨by omega, by omega⟩)⟩
