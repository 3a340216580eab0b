set_option maxRecDepth 4000 in
set_option maxHeartbeats 4000000 in
/-- X8.clumpsAt -/
theorem w_108 {s : pS} (w : Nat) (hw : zWo w) (a1 : Int32) (H : mzH) (hI : gI SX H) (hJ : JX H) (hp0 : wdX H w s) : gCall 108 [.ref w, .int a1] H (gRi (fun v H' => H = H' ∧ v.toInt = cnt (fun x => whr s x = a1.toInt ∧ (s.ii x < 0 ∨ s.op (s.ii x).toNat = 1)) 40)) := by
  obtain ⟨hwr, hw0, hw1, hw2, hw3, hw4, hw5, hw6⟩ := id hw
  refine gG_call [(0, .ref w), (1, .int a1)] ⟨rfl, rfl, trivial⟩ ?_
  show gG 4 zB_108 (mzBlk zB_108 0) [(0, .ref w), (1, .int a1)] [] H 0 0 _
  refine g_iconst (by decide) (fun v729 kv729 => ?_)
  refine g_istore_n (l' := [(0, .ref w), (1, .int a1), (2, .int v729)]) rfl rfl ?_
  refine g_iconst (by decide) (fun v730 kv730 => ?_)
  refine g_istore_n (l' := [(0, .ref w), (1, .int a1), (2, .int v729), (3, .int v730)]) rfl rfl ?_
  refine g_nop ?_
  have L733 : ∀ (N : Nat) (v731 : Int32) (v732 : Int32), (0 ≤ v731.toInt ∧ v731.toInt ≤ 40) → (0 ≤ v732.toInt ∧ v732.toInt ≤ 40) → v731.toInt = cnt (fun x => whr s x = a1.toInt ∧ (s.ii x < 0 ∨ s.op (s.ii x).toNat = 1)) v732.toInt.toNat → v731.toInt ≤ v732.toInt → (40 - v732.toInt).toNat < N → gG 4 zB_108 (mzBlk zB_108 1) [(0, .ref w), (1, .int a1), (2, .int v731), (3, .int v732)] [] H 0 0 (gRi (fun v H' => H = H' ∧ v.toInt = cnt (fun x => whr s x = a1.toInt ∧ (s.ii x < 0 ∨ s.op (s.ii x).toNat = 1)) 40)) := by
    intro N
    induction N with
    | zero => intro v731 v732 bv731 bv732 q1 q2 hmL733; exact absurd hmL733 (Nat.not_lt_zero _)
    | succ N ihL733 =>
      intro v731 v732 bv731 bv732 q1 q2 hmL733
      refine g_iload_n rfl ?_
      refine g_bipush (by decide) (fun v734 kv734 => ?_)
      refine g_if2_ge (fun c735 => ?_) (fun c735 => ?_)
      · refine g_iload_n rfl ?_
        exact g_iret ⟨_, rfl, rfl, (cn_end q1 (by omega))⟩
      · refine g_aload_n rfl ?_
        refine g_iload_n rfl ?_
        refine g_invvi hI hw0 rfl rfl rfl rfl (w_91 w hw v732 (by omega) H hI hJ hp0) (fun v738 H736 r737 => ?_)
        obtain ⟨rfl, p739⟩ := r737
        refine g_iload_n rfl ?_
        refine g_if2_ne (fun c740 => ?_) (fun c740 => ?_)
        · refine g_iinc (l' := (fun v741 => [(0, .ref w), (1, .int a1), (2, .int v731), (3, .int v741)])) rfl rfl (by decide) (by omega) (fun _ => rfl) (fun v741 ev741 => ?_)
          refine g_goto ?_
          exact ihL733 v731 v741 (by omega) (by omega) (cn_n q1 (by omega) (by show ¬ (whr s v732.toInt.toNat = a1.toInt ∧ (s.ii v732.toInt.toNat < 0 ∨ s.op (s.ii v732.toInt.toNat).toNat = 1)); omega) (by omega)) (by omega) (by omega)
        · refine g_aload_n rfl ?_
          refine g_gfr hI hw0 rfl ?_
          refine g_iload_n rfl ?_
          refine g_iaload hI hw2 rfl (by omega) (fun v742 ev742 lv742 uv742 => ?_)
          have yv742 : v742.toInt = (s).ii v732.toInt.toNat := by rw [ev742]; exact (hp0 _ (by omega)).2.1
          refine g_if_lt (fun c743 => ?_) (fun c743 => ?_)
          · refine g_iinc (l' := (fun v744 => [(0, .ref w), (1, .int a1), (2, .int v744), (3, .int v732)])) rfl rfl (by decide) (by omega) (fun _ => rfl) (fun v744 ev744 => ?_)
            refine g_nop ?_
            refine g_iinc (l' := (fun v745 => [(0, .ref w), (1, .int a1), (2, .int v744), (3, .int v745)])) rfl rfl (by decide) (by omega) (fun _ => rfl) (fun v745 ev745 => ?_)
            refine g_goto ?_
            exact ihL733 v744 v745 (by omega) (by omega) (cn_y q1 (by omega) (by show (whr s v732.toInt.toNat = a1.toInt ∧ (s.ii v732.toInt.toNat < 0 ∨ s.op (s.ii v732.toInt.toNat).toNat = 1)); omega) (by omega)) (by omega) (by omega)
          · refine g_aload_n rfl ?_
            refine g_aload_n rfl ?_
            refine g_gfr hI hw0 rfl ?_
            refine g_iload_n rfl ?_
            refine g_ialoadk hI hw2 rfl (by omega) ev742 ?_
            refine g_iconst (by decide) (fun v746 kv746 => ?_)
            refine g_invvi hI hw0 rfl rfl rfl rfl (w_85 w hw v742 (by omega) v746 H hI hJ hp0 (by omega)) (fun v749 H747 r748 => ?_)
            obtain ⟨rfl, bv749, p750⟩ := r748
            rw [kv746, mkb_1] at p750
            have p2v749 := p750
            rw [yv742] at p2v749
            refine g_if_eq (fun c751 => ?_) (fun c751 => ?_)
            · refine g_iinc (l' := (fun v752 => [(0, .ref w), (1, .int a1), (2, .int v731), (3, .int v752)])) rfl rfl (by decide) (by omega) (fun _ => rfl) (fun v752 ev752 => ?_)
              refine g_goto ?_
              exact ihL733 v731 v752 (by omega) (by omega) (cn_n q1 (by omega) (by show ¬ (whr s v732.toInt.toNat = a1.toInt ∧ (s.ii v732.toInt.toNat < 0 ∨ s.op (s.ii v732.toInt.toNat).toNat = 1)); omega) (by omega)) (by omega) (by omega)
            · refine g_nop ?_
              refine g_iinc (l' := (fun v753 => [(0, .ref w), (1, .int a1), (2, .int v753), (3, .int v732)])) rfl rfl (by decide) (by omega) (fun _ => rfl) (fun v753 ev753 => ?_)
              refine g_nop ?_
              refine g_iinc (l' := (fun v754 => [(0, .ref w), (1, .int a1), (2, .int v753), (3, .int v754)])) rfl rfl (by decide) (by omega) (fun _ => rfl) (fun v754 ev754 => ?_)
              refine g_goto ?_
              exact ihL733 v753 v754 (by omega) (by omega) (cn_y q1 (by omega) (by show (whr s v732.toInt.toNat = a1.toInt ∧ (s.ii v732.toInt.toNat < 0 ∨ s.op (s.ii v732.toInt.toNat).toNat = 1)); omega) (by omega)) (by omega) (by omega)
  exact L733 _ v729 v730 (by omega) (by omega) (cn_0 (by omega) (by omega)) (by omega) (Nat.lt_succ_self _)
set_option maxRecDepth 4000 in
set_option maxHeartbeats 4000000 in
/-- X9.components -/
theorem w_135  (a1 : Int32) (a2 : Int32) (H : mzH) (hI : gI SX H) (hJ : JX H) (hp0 : gdX H) : gCall 135 [.ref 0, .int a1, .int a2] H (gRi (fun v H' => gI SX H' ∧ JX H' ∧ fZ H' 1 1 = fZ H 1 1 ∧ kpX H H' ∧ ((v.toInt = -1 ∧ ¬ ((0 ≤ a1.toInt ∧ a1.toInt < (fZ H 3 7).toInt) ∧ (0 ≤ a2.toInt ∧ a2.toInt ≤ 999))) ∨ (((0 ≤ a1.toInt ∧ a1.toInt < (fZ H 3 7).toInt) ∧ (0 ≤ a2.toInt ∧ a2.toInt ≤ 999)) ∧ ∃ p : Nat, stX H a2.toInt p ∧ v.toInt = cnt (fun x => whr (fX H p) x = a1.toInt ∧ ((fX H p).ii x < 0 ∨ (fX H p).op ((fX H p).ii x).toNat = 1)) 40)))) := by
  obtain ⟨k1_1, ek1_1⟩ : ∃ z, z = fZ H 1 1 := ⟨_, rfl⟩
  have ik1_1 : k1_1.toInt = (fZ H 1 1).toInt := by rw [← ek1_1]
  have bk1_1 : 0 ≤ k1_1.toInt ∧ k1_1.toInt ≤ 900 := by rw [ek1_1]; exact fZ_of hI sx_1 rfl
  have mkfr : kpX H H := kpX_r
  refine gG_call [(0, .ref 0), (1, .int a1), (2, .int a2)] ⟨rfl, rfl, rfl, trivial⟩ ?_
  show gG 3 zB_135 (mzBlk zB_135 0) [(0, .ref 0), (1, .int a1), (2, .int a2)] [] H 0 0 _
  refine g_aload_n rfl ?_
  refine g_gfr hI sx_0 rfl ?_
  refine g_iload_n rfl ?_
  refine g_invvi hI sx_3 rfl rfl rfl rfl (w_11 a1 H hI hJ) (fun v99 H97 r98 => ?_)
  obtain ⟨rfl, bv99, p100⟩ := r98
  refine g_if_eq (fun c101 => ?_) (fun c101 => ?_)
  · refine g_iconst (by decide) (fun v102 kv102 => ?_)
    exact g_iret ⟨_, rfl, hI, hJ, (ek1_1.symm.trans ek1_1), mkfr, (Or.inl ⟨by omega, by omega⟩)⟩
  · refine g_iload_n rfl ?_
    refine g_invti rfl rfl rfl (w_150 a2 H hI hJ) (fun v105 H103 r104 => ?_)
    obtain ⟨rfl, bv105, p106⟩ := r104
    refine g_if_ne (fun c107 => ?_) (fun c107 => ?_)
    · refine g_aload_n rfl ?_
      refine g_gfr hI sx_0 rfl ?_
      refine g_iload_n rfl ?_
      refine g_invva hI sx_24 rfl rfl rfl rfl (w_55 a2 H hI hJ hp0) (fun H108 r109 => ?_)
      obtain ⟨hIH108, hJH108, w110, m111, p112⟩ := r109
      have e113 : k1_1 = fZ H108 1 1 := ek1_1.trans w110.symm
      have m114 : kpX H H108 := kpX_t mkfr m111
      obtain ⟨p115, wdp115, stp115⟩ := p112
      have gbp115 := (hp0.2 p115 (by have := stp115.1; omega))
      obtain ⟨lap115, kdp115⟩ := gbp115
      refine g_iload_n rfl ?_
      refine g_invvi hIH108 sx_28 rfl rfl rfl rfl (w_108 28 zWo_28 a1 H108 hIH108 hJH108 wdp115) (fun v118 H116 r117 => ?_)
      obtain ⟨rfl, p119⟩ := r117
      exact g_iret ⟨_, rfl, hIH108, hJH108, (e113.symm.trans ek1_1), m114, (Or.inr ⟨by omega, p115, stp115, p119⟩)⟩
    · refine g_nop ?_
      refine g_iconst (by decide) (fun v120 kv120 => ?_)
      exact g_iret ⟨_, rfl, hI, hJ, (ek1_1.symm.trans ek1_1), mkfr, (Or.inl ⟨by omega, by omega⟩)⟩
