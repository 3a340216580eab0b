theorem ho_up {H B C : mzH} {f : Nat → Int} {k h : Int32} (e : ∀ q : Nat, (q : Int) < (aZ H 2 2).toInt → hoM B q = f q) (hI : gI SM B) (eS : C = sA B 18 k.toInt.toNat h) (hk : 0 ≤ k.toInt ∧ k.toInt ≤ 59) : ∀ q : Nat, (q : Int) < (aZ H 2 2).toInt → hoM C q = upi f k.toInt.toNat h.toInt q := fun q hq => by
  show (aZ C 18 q).toInt = _
  unfold upi
  if c : q = k.toInt.toNat then rw [if_pos c, eS, c, aZ_sA_eq hI sm_18 (by omega)]
  else
    rw [if_neg c, eS, aZ_sA_ne (by omega)]
    exact e q hq
theorem upb {H : mzH} {f : Nat → Int} {k : Nat} {h : Int} (hb : ∀ q : Nat, (q : Int) < (aZ H 2 2).toInt → 0 ≤ f q ∧ f q ≤ 999) (hh : 0 ≤ h ∧ h ≤ 999) : ∀ q : Nat, (q : Int) < (aZ H 2 2).toInt → 0 ≤ upi f k h q ∧ upi f k h q ≤ 999 := fun q hq => by
  unfold upi
  split
  · exact hh
  · exact hb q hq
set_option maxRecDepth 4000 in
set_option maxHeartbeats 4000000 in
/-- M.refusedNow -/
theorem r_224 {A G : mzH} (H : mzH) (hI : gI SM H) (hJ : JN H) (hp0 : odI H A (aZ A 2 2).toInt.toNat) (hp1 : (∀ x : Nat, x < cnM A → (aZ H 20 (odM A x)).toInt = rvM A G x)) : gCall 224 [.ref 0] H (gRi (fun v H' => H = H' ∧ v.toInt = cnt (fun x => ¬ rvM A G x = 0) (cnM A))) := by
  refine gG_call [(0, .ref 0)] ⟨rfl, trivial⟩ ?_
  show gG 3 zB_224 (mzBlk zB_224 0) [(0, .ref 0)] [] H 0 0 _
  refine g_iconst (by decide) (fun v399 kv399 => ?_)
  refine g_istore_n (l' := [(0, .ref 0), (1, .int v399)]) rfl rfl ?_
  refine g_iconst (by decide) (fun v400 kv400 => ?_)
  refine g_istore_n (l' := [(0, .ref 0), (1, .int v399), (2, .int v400)]) rfl rfl ?_
  refine g_nop ?_
  have L403 : ∀ (N : Nat) (v401 : Int32) (v402 : Int32), (0 ≤ v402.toInt ∧ v402.toInt ≤ 60) → v401.toInt = cnt (fun x => ¬ rvM A G x = 0) v402.toInt.toNat → (0 ≤ v401.toInt ∧ v401.toInt ≤ v402.toInt) → (v402.toInt : Int) ≤ (cnM A : Int) → (60 - v402.toInt).toNat < N → gG 3 zB_224 (mzBlk zB_224 1) [(0, .ref 0), (1, .int v401), (2, .int v402)] [] H 0 0 (gRi (fun v H' => H = H' ∧ v.toInt = cnt (fun x => ¬ rvM A G x = 0) (cnM A))) := by
    intro N
    induction N with
    | zero => intro v401 v402 bv402 q1 q2 q3 hmL403; exact absurd hmL403 (Nat.not_lt_zero _)
    | succ N ihL403 =>
      intro v401 v402 bv402 q1 q2 q3 hmL403
      refine g_iload_n rfl ?_
      refine g_aload_n rfl ?_
      refine g_gfi hI sm_0 rfl (fun v404 ev404 lv404 uv404 => ?_)
      have zv404 : v404.toInt = (cnM A : Int) := by rw [ev404]; exact od_n hp0
      refine g_if2_ge (fun c405 => ?_) (fun c405 => ?_)
      · refine g_iload_n rfl ?_
        exact g_iret ⟨_, rfl, rfl, (by rw [show cnM A = v402.toInt.toNat by omega]; exact q1)⟩
      · refine g_iload_n rfl ?_
        refine g_aload_n rfl ?_
        refine g_gfr hI sm_0 rfl ?_
        refine g_aload_n rfl ?_
        refine g_gfr hI sm_0 rfl ?_
        refine g_iload_n rfl ?_
        refine g_iaload hI sm_19 rfl (by omega) (fun v406 ev406 lv406 uv406 => ?_)
        have zkv406 : v406.toInt.toNat = odM A v402.toInt.toNat := by rw [ev406]; exact od_g hp0 (by omega)
        refine g_iaload hI sm_20 rfl (by omega) (fun v407 ev407 lv407 uv407 => ?_)
        have yv407 : v407.toInt = rvM A G v402.toInt.toNat := by rw [ev407, zkv406]; exact hp1 _ (by omega)
        refine g_if_ne (fun c408 => ?_) (fun c408 => ?_)
        · refine g_iconst (by decide) (fun v409 kv409 => ?_)
          refine g_nop ?_
          refine g_iadd' (fun v410 ov410 => ?_)
          have sv410 : v410.toInt = v401.toInt + v409.toInt := gz_add_of ov410 (by omega)
          refine g_istore_n (l' := [(0, .ref 0), (1, .int v410), (2, .int v402)]) rfl rfl ?_
          refine g_iinc (l' := (fun v411 => [(0, .ref 0), (1, .int v410), (2, .int v411)])) rfl rfl (by decide) (by omega) (fun _ => rfl) (fun v411 ev411 => ?_)
          refine g_goto ?_
          exact ihL403 v410 v411 (by omega) (cn_y q1 (by omega) (by show ¬ rvM A G v402.toInt.toNat = 0; omega) (by omega)) (by omega) (by omega) (by omega)
        · refine g_iconst (by decide) (fun v412 kv412 => ?_)
          refine g_goto ?_
          refine g_iadd (by have := gz_any v401; omega) (fun v413 ev413 => ?_)
          refine g_istore_n (l' := [(0, .ref 0), (1, .int v413), (2, .int v402)]) rfl rfl ?_
          refine g_iinc (l' := (fun v414 => [(0, .ref 0), (1, .int v413), (2, .int v414)])) rfl rfl (by decide) (by omega) (fun _ => rfl) (fun v414 ev414 => ?_)
          refine g_goto ?_
          exact ihL403 v413 v414 (by omega) (cn_n q1 (by omega) (by show ¬ ¬ rvM A G v402.toInt.toNat = 0; omega) (by omega)) (by omega) (by omega) (by omega)
  exact L403 _ v399 v400 (by omega) (cn_0 (by omega) (by omega)) (by omega) (by omega) (Nat.lt_succ_self _)
set_option maxRecDepth 4000 in
set_option maxHeartbeats 4000000 in
/-- M.ifSwapped -/
theorem r_247 (a1 : Int32) (a2 : Int32) (a3 : Int32) (H : mzH) (hI : gI SM H) (hJ : JN H) (hp0 : ((∀ A, tkQ H A → gdM A))) (hp1 : (∀ k : Nat, (k : Int) < (aZ H 2 2).toInt → 0 ≤ (aZ H 2 (69 + 5 * k)).toInt ∧ (aZ H 2 (69 + 5 * k)).toInt ≤ 999)) : gCall 247 [.ref 0, .int a1, .int a2, .int a3] H (gRi (fun v H' => gI SM H' ∧ JN H' ∧ fZ H' 0 2 = fZ H 0 2 ∧ kpM H H' ∧ ((v.toInt = -1000 ∧ ¬ ((0 ≤ a1.toInt ∧ a1.toInt < (aZ H 2 2).toInt) ∧ (0 ≤ a2.toInt ∧ a2.toInt < (aZ H 2 2).toInt) ∧ ¬ a1.toInt = a2.toInt ∧ (-1 ≤ a3.toInt ∧ a3.toInt < 40))) ∨ (((0 ≤ a1.toInt ∧ a1.toInt < (aZ H 2 2).toInt) ∧ (0 ≤ a2.toInt ∧ a2.toInt < (aZ H 2 2).toInt) ∧ ¬ a1.toInt = a2.toInt ∧ (-1 ≤ a3.toInt ∧ a3.toInt < 40)) ∧ (∃ A : mzH, tkQ H A ∧ (∀ q : Nat, (q : Int) < (aZ H 2 2).toInt → (inM A q ≠ 0 ↔ True) ∧ hoM A q = upi (upi (fun q => (aZ H 2 (69 + 5 * q)).toInt) a1.toInt.toNat (aZ H 2 (69 + 5 * a2.toInt.toNat)).toInt) a2.toInt.toNat (aZ H 2 (69 + 5 * a1.toInt.toNat)).toInt q) ∧ ∃ G : mzH, clR (rgM G) (mdM G) ∧ v.toInt = (if a3.toInt < 0 then cnt (fun x => ¬ rvM A G x = 0) (cnM A) else whM (fM A G (cnM A)).1 (fM A G (cnM A)).2 a3.toInt.toNat)))))) := by
  obtain ⟨k0_2, ek0_2⟩ : ∃ z, z = fZ H 0 2 := ⟨_, rfl⟩
  have ik0_2 : k0_2.toInt = (fZ H 0 2).toInt := by rw [← ek0_2]
  have bk0_2 : 0 ≤ k0_2.toInt ∧ k0_2.toInt ≤ 900 := by rw [ek0_2]; exact fZ_of hI sm_0 rfl
  have mkfr : kpM H H := kpM_r
  refine gG_call [(0, .ref 0), (1, .int a1), (2, .int a2), (3, .int a3)] ⟨rfl, rfl, rfl, rfl, trivial⟩ ?_
  show gG 5 zB_247 (mzBlk zB_247 0) [(0, .ref 0), (1, .int a1), (2, .int a2), (3, .int a3)] [] H 0 0 _
  refine g_aload_n rfl ?_
  refine g_iconst (by decide) (fun v585 kv585 => ?_)
  refine g_pfi hI sm_0 rfl (gz_any _) (fun H586 eH586 hIH586 => ?_)
  have hJH586 : JN H586 := JN_sF eH586 hJ
  have e587 : k0_2 = fZ H586 0 2 := by rw [eH586, fZ_sF_ne (by decide)]; exact ek0_2
  have m588 : kpM H H586 := kpM_F mkfr eH586 (by omega)
  refine g_iload_n rfl ?_
  refine g_if_lt (fun c589 => ?_) (fun c589 => ?_)
  · refine g_iconst (by decide) (fun v590 kv590 => ?_)
    refine g_nop ?_
    refine g_istore (l' := [(0, .ref 0), (1, .int a1), (2, .int a2), (3, .int a3), (4, .int v590)]) rfl rfl ?_
    refine g_iload rfl ?_
    refine g_if_ne (fun c591 => ?_) (fun c591 => ?_)
    · exfalso; omega
    · refine g_sipush (by decide) (fun v592 kv592 => ?_)
      exact g_iret ⟨_, rfl, hIH586, hJH586, (e587.symm.trans ek0_2), m588, (Or.inl ⟨by omega, by omega⟩)⟩
  · refine g_iload_n rfl ?_
    refine g_aload_n rfl ?_
    refine g_invvi hIH586 sm_0 rfl rfl rfl rfl (s_180 H586 hIH586 hJH586) (fun v595 H593 r594 => ?_)
    obtain ⟨rfl, bv595, p596⟩ := r594
    have hm2 := congrArg Int32.toInt (m588.1 2 (by decide) 2)
    refine g_if2_ge (fun c597 => ?_) (fun c597 => ?_)
    · refine g_iconst (by decide) (fun v598 kv598 => ?_)
      refine g_nop ?_
      refine g_istore (l' := [(0, .ref 0), (1, .int a1), (2, .int a2), (3, .int a3), (4, .int v598)]) rfl rfl ?_
      refine g_iload rfl ?_
      refine g_if_ne (fun c599 => ?_) (fun c599 => ?_)
      · exfalso; omega
      · refine g_sipush (by decide) (fun v600 kv600 => ?_)
        exact g_iret ⟨_, rfl, hIH586, hJH586, (e587.symm.trans ek0_2), m588, (Or.inl ⟨by omega, by omega⟩)⟩
    · refine g_iload_n rfl ?_
      refine g_if_lt (fun c601 => ?_) (fun c601 => ?_)
      · refine g_iconst (by decide) (fun v602 kv602 => ?_)
        refine g_nop ?_
        refine g_istore (l' := [(0, .ref 0), (1, .int a1), (2, .int a2), (3, .int a3), (4, .int v602)]) rfl rfl ?_
        refine g_iload rfl ?_
        refine g_if_ne (fun c603 => ?_) (fun c603 => ?_)
        · exfalso; omega
        · refine g_sipush (by decide) (fun v604 kv604 => ?_)
          exact g_iret ⟨_, rfl, hIH586, hJH586, (e587.symm.trans ek0_2), m588, (Or.inl ⟨by omega, by omega⟩)⟩
      · refine g_iload_n rfl ?_
        refine g_aload_n rfl ?_
        refine g_invvi hIH586 sm_0 rfl rfl rfl rfl (s_180 H586 hIH586 hJH586) (fun v607 H605 r606 => ?_)
        obtain ⟨rfl, bv607, p608⟩ := r606
        have hm2 := congrArg Int32.toInt (m588.1 2 (by decide) 2)
        refine g_if2_ge (fun c609 => ?_) (fun c609 => ?_)
        · refine g_iconst (by decide) (fun v610 kv610 => ?_)
          refine g_nop ?_
          refine g_istore (l' := [(0, .ref 0), (1, .int a1), (2, .int a2), (3, .int a3), (4, .int v610)]) rfl rfl ?_
          refine g_iload rfl ?_
          refine g_if_ne (fun c611 => ?_) (fun c611 => ?_)
          · exfalso; omega
          · refine g_sipush (by decide) (fun v612 kv612 => ?_)
            exact g_iret ⟨_, rfl, hIH586, hJH586, (e587.symm.trans ek0_2), m588, (Or.inl ⟨by omega, by omega⟩)⟩
        · refine g_iload_n rfl ?_
          refine g_iload_n rfl ?_
          refine g_if2_eq (fun c613 => ?_) (fun c613 => ?_)
          · refine g_iconst (by decide) (fun v614 kv614 => ?_)
            refine g_nop ?_
            refine g_istore (l' := [(0, .ref 0), (1, .int a1), (2, .int a2), (3, .int a3), (4, .int v614)]) rfl rfl ?_
            refine g_iload rfl ?_
            refine g_if_ne (fun c615 => ?_) (fun c615 => ?_)
            · exfalso; omega
            · refine g_sipush (by decide) (fun v616 kv616 => ?_)
              exact g_iret ⟨_, rfl, hIH586, hJH586, (e587.symm.trans ek0_2), m588, (Or.inl ⟨by omega, by omega⟩)⟩
          · refine g_iload_n rfl ?_
            refine g_iconst (by decide) (fun v617 kv617 => ?_)
            refine g_if2_eq (fun c618 => ?_) (fun c618 => ?_)
            · refine g_iconst (by decide) (fun v619 kv619 => ?_)
              refine g_goto ?_
              refine g_istore (l' := [(0, .ref 0), (1, .int a1), (2, .int a2), (3, .int a3), (4, .int v619)]) rfl rfl ?_
              refine g_iload rfl ?_
              refine g_if_ne (fun c620 => ?_) (fun c620 => ?_)
              · refine g_aload_n rfl ?_
                refine g_invvv hIH586 sm_0 rfl rfl rfl rfl (r_182 H586 hIH586 hJH586) (fun H621 r622 => ?_)
                obtain ⟨hIH621, hJH621, m623, m624, m625, m626, p627, p628⟩ := r622
                have e629 : k0_2 = fZ H621 0 2 := e587.trans (m623 0 2).symm
                have m630 : kpM H H621 := kpM_t m588 m625
                have tH621 : tkW H H621 := tk_kp m588 ⟨m625, m624, p628⟩
                refine g_aload_n rfl ?_
                refine g_gfr hIH621 sm_0 rfl ?_
                refine g_iload_n rfl ?_
                refine g_aload_n rfl ?_
                refine g_iload_n rfl ?_
                refine g_iconst (by decide) (fun v631 kv631 => ?_)
                refine g_invvi hIH621 sm_0 rfl rfl rfl rfl (s_181 a2 (by omega) v631 (by omega) H621 hIH621 hJH621) (fun v634 H632 r633 => ?_)
                obtain ⟨rfl, p635⟩ := r633
                have tv634 : v634.toInt = (aZ H 2 (69 + 5 * a2.toInt.toNat)).toInt := by rw [p635, m630.1 2 (by decide), kv631, show (69 + 5 * a2.toInt + 0).toNat = 69 + 5 * a2.toInt.toNat by omega]
                have tbv634 := hp1 a2.toInt.toNat (by omega)
                refine g_iastore hIH621 sm_18 (by omega) (gz_any _) (fun H636 eH636 hIH636 => ?_)
                have hJH636 : JN H636 := JN_sA (by decide) eH636 hJH621
                have e637 : k0_2 = fZ H636 0 2 := by rw [eH636, fZ_sA]; exact e629
                have m638 : kpM H H636 := kpM_A m630 eH636 (by omega)
                have xm639 : (∀ i, aZ H636 17 i = aZ H621 17 i) := fun i => (by rw [eH636, aZ_sA_nc (by decide)] : aZ H636 17 i = aZ H621 17 i).trans ((fun _ => rfl) i)
                refine g_aload_n rfl ?_
                refine g_gfr hIH636 sm_0 rfl ?_
                refine g_iload_n rfl ?_
                refine g_aload_n rfl ?_
                refine g_iload_n rfl ?_
                refine g_iconst (by decide) (fun v640 kv640 => ?_)
                refine g_invvi hIH636 sm_0 rfl rfl rfl rfl (s_181 a1 (by omega) v640 (by omega) H636 hIH636 hJH636) (fun v643 H641 r642 => ?_)
                obtain ⟨rfl, p644⟩ := r642
                have tv643 : v643.toInt = (aZ H 2 (69 + 5 * a1.toInt.toNat)).toInt := by rw [p644, m638.1 2 (by decide), kv640, show (69 + 5 * a1.toInt + 0).toNat = 69 + 5 * a1.toInt.toNat by omega]
                have tbv643 := hp1 a1.toInt.toNat (by omega)
                refine g_iastore hIH636 sm_18 (by omega) (gz_any _) (fun H645 eH645 hIH645 => ?_)
                have hJH645 : JN H645 := JN_sA (by decide) eH645 hJH636
                have e646 : k0_2 = fZ H645 0 2 := by rw [eH645, fZ_sA]; exact e637
                have m647 : kpM H H645 := kpM_A m638 eH645 (by omega)
                have xm648 : (∀ i, aZ H645 17 i = aZ H621 17 i) := fun i => (by rw [eH645, aZ_sA_nc (by decide)] : aZ H645 17 i = aZ H636 17 i).trans (xm639 i)
                refine g_aload_n rfl ?_
                refine g_sipush (by decide) (fun v649 kv649 => ?_)
                have hoH645 : ∀ q : Nat, (q : Int) < (aZ H 2 2).toInt → hoM H645 q = (upi (upi (fun q => (aZ H 2 (69 + 5 * q)).toInt) a1.toInt.toNat v634.toInt) a2.toInt.toNat v643.toInt) q := (ho_up (ho_up (fun q hq => (tH621.2.2 q hq).1) hIH621 eH636 (by omega)) hIH636 eH645 (by omega))
                have inH645 : ∀ q : Nat, (q : Int) < (aZ H 2 2).toInt → inM H645 q ≠ 0 := fun q hq => by rw [show inM H645 q = 1 by show (aZ H645 17 q).toInt = 1; rw [show aZ H645 17 q = aZ H621 17 q from xm648 q]; exact (tH621.2.2 q hq).2]; decide
                have tqH645 : tkQ H H645 := ⟨m647, fun i => m647.1 2 (by decide) i, fun q hq => by rw [hoH645 q hq]; exact (upb (upb hp1 (by omega)) (by omega)) q hq⟩
                refine g_invvv hIH645 sm_0 rfl rfl rfl rfl (r_198 v649 H645 hIH645 hJH645 (hp0 H645 tqH645)) (fun H650 r651 => ?_)
                obtain ⟨hIH650, hJH650, w652, m653, m654, m655, m656, m657, p658, p659⟩ := r651
                have e660 : k0_2 = fZ H650 0 2 := e646.trans w652.symm
                have m661 : kpM H H650 := kpM_t m647 m655
                have xm662 : (∀ i, aZ H650 17 i = aZ H621 17 i) := fun i => (m654 i : aZ H650 17 i = aZ H645 17 i).trans (xm648 i)
                obtain ⟨G663, clG663, p664, wdp664, stp664, wyp664, oip664⟩ := p659
                rw [kv649] at stp664
                obtain rfl := st_all (hp0 H645 tqH645) stp664
                obtain ⟨dpp664, lap664⟩ := (hp0 H645 tqH645).2 G663 clG663 (cnM H645) (Nat.le_refl _)
                refine g_iload_n rfl ?_
                refine g_iconst (by decide) (fun v665 kv665 => ?_)
                refine g_if2_ne (fun c666 => ?_) (fun c666 => ?_)
                · exfalso; omega
                · refine g_aload_n rfl ?_
                  refine g_invvi hIH650 sm_0 rfl rfl rfl rfl (r_224 H650 hIH650 (JM_n hJH650) oip664 wyp664) (fun v669 H667 r668 => ?_)
                  obtain ⟨rfl, p670⟩ := r668
                  refine g_goto ?_
                  exact g_iret ⟨_, rfl, hIH650, (JM_n hJH650), (e660.symm.trans ek0_2), m661, (Or.inr ⟨by omega, H645, tqH645, fun q hq => ⟨iff_of_true (inH645 q hq) trivial, by rw [hoH645 q hq, tv634, tv643]⟩, G663, clG663, by rw [if_pos (by omega)]; exact p670⟩)⟩
              · exfalso; omega
            · refine g_iload_n rfl ?_
              refine g_invti rfl rfl rfl (r_205 a3 H586 hIH586 hJH586) (fun v673 H671 r672 => ?_)
              obtain ⟨rfl, bv673, p674⟩ := r672
              refine g_if_eq (fun c675 => ?_) (fun c675 => ?_)
              · refine g_iconst (by decide) (fun v676 kv676 => ?_)
                refine g_nop ?_
                refine g_istore (l' := [(0, .ref 0), (1, .int a1), (2, .int a2), (3, .int a3), (4, .int v676)]) rfl rfl ?_
                refine g_iload rfl ?_
                refine g_if_ne (fun c677 => ?_) (fun c677 => ?_)
                · exfalso; omega
                · refine g_sipush (by decide) (fun v678 kv678 => ?_)
                  exact g_iret ⟨_, rfl, hIH586, hJH586, (e587.symm.trans ek0_2), m588, (Or.inl ⟨by omega, by omega⟩)⟩
              · refine g_nop ?_
                refine g_iconst (by decide) (fun v679 kv679 => ?_)
                refine g_goto ?_
                refine g_istore (l' := [(0, .ref 0), (1, .int a1), (2, .int a2), (3, .int a3), (4, .int v679)]) rfl rfl ?_
                refine g_iload rfl ?_
                refine g_if_ne (fun c680 => ?_) (fun c680 => ?_)
                · refine g_aload_n rfl ?_
                  refine g_invvv hIH586 sm_0 rfl rfl rfl rfl (r_182 H586 hIH586 hJH586) (fun H681 r682 => ?_)
                  obtain ⟨hIH681, hJH681, m683, m684, m685, m686, p687, p688⟩ := r682
                  have e689 : k0_2 = fZ H681 0 2 := e587.trans (m683 0 2).symm
                  have m690 : kpM H H681 := kpM_t m588 m685
                  have tH681 : tkW H H681 := tk_kp m588 ⟨m685, m684, p688⟩
                  refine g_aload_n rfl ?_
                  refine g_gfr hIH681 sm_0 rfl ?_
                  refine g_iload_n rfl ?_
                  refine g_aload_n rfl ?_
                  refine g_iload_n rfl ?_
                  refine g_iconst (by decide) (fun v691 kv691 => ?_)
                  refine g_invvi hIH681 sm_0 rfl rfl rfl rfl (s_181 a2 (by omega) v691 (by omega) H681 hIH681 hJH681) (fun v694 H692 r693 => ?_)
                  obtain ⟨rfl, p695⟩ := r693
                  have tv694 : v694.toInt = (aZ H 2 (69 + 5 * a2.toInt.toNat)).toInt := by rw [p695, m690.1 2 (by decide), kv691, show (69 + 5 * a2.toInt + 0).toNat = 69 + 5 * a2.toInt.toNat by omega]
                  have tbv694 := hp1 a2.toInt.toNat (by omega)
                  refine g_iastore hIH681 sm_18 (by omega) (gz_any _) (fun H696 eH696 hIH696 => ?_)
                  have hJH696 : JN H696 := JN_sA (by decide) eH696 hJH681
                  have e697 : k0_2 = fZ H696 0 2 := by rw [eH696, fZ_sA]; exact e689
                  have m698 : kpM H H696 := kpM_A m690 eH696 (by omega)
                  have xm699 : (∀ i, aZ H696 17 i = aZ H681 17 i) := fun i => (by rw [eH696, aZ_sA_nc (by decide)] : aZ H696 17 i = aZ H681 17 i).trans ((fun _ => rfl) i)
                  refine g_aload_n rfl ?_
                  refine g_gfr hIH696 sm_0 rfl ?_
                  refine g_iload_n rfl ?_
                  refine g_aload_n rfl ?_
                  refine g_iload_n rfl ?_
                  refine g_iconst (by decide) (fun v700 kv700 => ?_)
                  refine g_invvi hIH696 sm_0 rfl rfl rfl rfl (s_181 a1 (by omega) v700 (by omega) H696 hIH696 hJH696) (fun v703 H701 r702 => ?_)
                  obtain ⟨rfl, p704⟩ := r702
                  have tv703 : v703.toInt = (aZ H 2 (69 + 5 * a1.toInt.toNat)).toInt := by rw [p704, m698.1 2 (by decide), kv700, show (69 + 5 * a1.toInt + 0).toNat = 69 + 5 * a1.toInt.toNat by omega]
                  have tbv703 := hp1 a1.toInt.toNat (by omega)
                  refine g_iastore hIH696 sm_18 (by omega) (gz_any _) (fun H705 eH705 hIH705 => ?_)
                  have hJH705 : JN H705 := JN_sA (by decide) eH705 hJH696
                  have e706 : k0_2 = fZ H705 0 2 := by rw [eH705, fZ_sA]; exact e697
                  have m707 : kpM H H705 := kpM_A m698 eH705 (by omega)
                  have xm708 : (∀ i, aZ H705 17 i = aZ H681 17 i) := fun i => (by rw [eH705, aZ_sA_nc (by decide)] : aZ H705 17 i = aZ H696 17 i).trans (xm699 i)
                  refine g_aload_n rfl ?_
                  refine g_sipush (by decide) (fun v709 kv709 => ?_)
                  have hoH705 : ∀ q : Nat, (q : Int) < (aZ H 2 2).toInt → hoM H705 q = (upi (upi (fun q => (aZ H 2 (69 + 5 * q)).toInt) a1.toInt.toNat v694.toInt) a2.toInt.toNat v703.toInt) q := (ho_up (ho_up (fun q hq => (tH681.2.2 q hq).1) hIH681 eH696 (by omega)) hIH696 eH705 (by omega))
                  have inH705 : ∀ q : Nat, (q : Int) < (aZ H 2 2).toInt → inM H705 q ≠ 0 := fun q hq => by rw [show inM H705 q = 1 by show (aZ H705 17 q).toInt = 1; rw [show aZ H705 17 q = aZ H681 17 q from xm708 q]; exact (tH681.2.2 q hq).2]; decide
                  have tqH705 : tkQ H H705 := ⟨m707, fun i => m707.1 2 (by decide) i, fun q hq => by rw [hoH705 q hq]; exact (upb (upb hp1 (by omega)) (by omega)) q hq⟩
                  refine g_invvv hIH705 sm_0 rfl rfl rfl rfl (r_198 v709 H705 hIH705 hJH705 (hp0 H705 tqH705)) (fun H710 r711 => ?_)
                  obtain ⟨hIH710, hJH710, w712, m713, m714, m715, m716, m717, p718, p719⟩ := r711
                  have e720 : k0_2 = fZ H710 0 2 := e706.trans w712.symm
                  have m721 : kpM H H710 := kpM_t m707 m715
                  have xm722 : (∀ i, aZ H710 17 i = aZ H681 17 i) := fun i => (m714 i : aZ H710 17 i = aZ H705 17 i).trans (xm708 i)
                  obtain ⟨G723, clG723, p724, wdp724, stp724, wyp724, oip724⟩ := p719
                  rw [kv709] at stp724
                  obtain rfl := st_all (hp0 H705 tqH705) stp724
                  obtain ⟨dpp724, lap724⟩ := (hp0 H705 tqH705).2 G723 clG723 (cnM H705) (Nat.le_refl _)
                  refine g_iload_n rfl ?_
                  refine g_iconst (by decide) (fun v725 kv725 => ?_)
                  refine g_if2_ne (fun c726 => ?_) (fun c726 => ?_)
                  · refine g_aload_n rfl ?_
                    refine g_iload_n rfl ?_
                    refine g_invvi hIH710 sm_0 rfl rfl rfl rfl (r_201 a3 (by omega) H710 hIH710 hJH710 wdp724 dpp724) (fun v729 H727 r728 => ?_)
                    obtain ⟨rfl, bv729, p730⟩ := r728
                    refine g_nop ?_
                    exact g_iret ⟨_, rfl, hIH710, (JM_n hJH710), (e720.symm.trans ek0_2), m721, (Or.inr ⟨by omega, H705, tqH705, fun q hq => ⟨iff_of_true (inH705 q hq) trivial, by rw [hoH705 q hq, tv694, tv703]⟩, G723, clG723, by rw [if_neg (by omega)]; exact p730⟩)⟩
                  · exfalso; omega
                · exfalso; omega
