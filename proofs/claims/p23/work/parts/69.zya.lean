set_option maxRecDepth 4000 in
set_option maxHeartbeats 4000000 in
/-- M.components -/
theorem r_243 (a1 : Int32) (a2 : Int32) (H : mzH) (hI : gI SM H) (hJ : JN H) (hp0 : ((∀ A, tkW H A → gdM A))) : gCall 243 [.ref 0, .int a1, .int a2] H (gRi (fun v H' => gI SM H' ∧ JN H' ∧ fZ H' 0 2 = fZ H 0 2 ∧ kpM H H' ∧ ((v.toInt = -1 ∧ ¬ ((0 ≤ a1.toInt ∧ a1.toInt < (aZ H 2 0).toInt) ∧ (0 ≤ a2.toInt ∧ a2.toInt ≤ 999))) ∨ (((0 ≤ a1.toInt ∧ a1.toInt < (aZ H 2 0).toInt) ∧ (0 ≤ a2.toInt ∧ a2.toInt ≤ 999)) ∧ ∃ A : mzH, tkW H A ∧ ∃ G : mzH, clR (rgM G) (mdM G) ∧ ∃ p : Nat, stM A a2.toInt p ∧ v.toInt = cnt (fun x => whM (fM A G p).1 (fM A G p).2 x = a1.toInt ∧ (((fM A G p).1).ii x = -5 ∨ ((fM A G p).1).op (((fM A G p).1).ii x).toNat = 1)) 40)))) := by
  obtain ⟨k0_2, ek0_2⟩ : ∃ z, z = fZ H 0 2 := ⟨_, rfl⟩
  have ik0_2 : k0_2.toInt = (fZ H 0 2).toInt := by rw [← ek0_2]
  have bk0_2 : 0 ≤ k0_2.toInt ∧ k0_2.toInt ≤ 900 := by rw [ek0_2]; exact fZ_of hI sm_0 rfl
  have mkfr : kpM H H := kpM_r
  refine gG_call [(0, .ref 0), (1, .int a1), (2, .int a2)] ⟨rfl, rfl, rfl, trivial⟩ ?_
  show gG 6 zB_243 (mzBlk zB_243 0) [(0, .ref 0), (1, .int a1), (2, .int a2)] [] H 0 0 _
  refine g_aload_n rfl ?_
  refine g_iconst (by decide) (fun v1617 kv1617 => ?_)
  refine g_pfi hI sm_0 rfl (gz_any _) (fun H1618 eH1618 hIH1618 => ?_)
  have hJH1618 : JN H1618 := JN_sF eH1618 hJ
  have e1619 : k0_2 = fZ H1618 0 2 := by rw [eH1618, fZ_sF_ne (by decide)]; exact ek0_2
  have m1620 : kpM H H1618 := kpM_F mkfr eH1618 (by omega)
  refine g_aload_n rfl ?_
  refine g_iload_n rfl ?_
  refine g_invvi hIH1618 sm_0 rfl rfl rfl rfl (r_210 a1 H1618 hIH1618 hJH1618) (fun v1623 H1621 r1622 => ?_)
  obtain ⟨rfl, bv1623, p1624, p1625⟩ := r1622
  rw [m1620.1 2 (by decide)] at p1624
  refine g_if_eq (fun c1626 => ?_) (fun c1626 => ?_)
  · refine g_iconst (by decide) (fun v1627 kv1627 => ?_)
    exact g_iret ⟨_, rfl, hIH1618, hJH1618, (e1619.symm.trans ek0_2), m1620, (Or.inl ⟨by omega, by omega⟩)⟩
  · refine g_iload_n rfl ?_
    refine g_invti rfl rfl rfl (r_206 a2 H1618 hIH1618 hJH1618) (fun v1630 H1628 r1629 => ?_)
    obtain ⟨rfl, bv1630, p1631⟩ := r1629
    refine g_if_ne (fun c1632 => ?_) (fun c1632 => ?_)
    · refine g_aload_n rfl ?_
      refine g_iload_n rfl ?_
      refine g_invvv hIH1618 sm_0 rfl rfl rfl rfl (r_200 a2 H1618 hIH1618 hJH1618 (fun A t => hp0 A (tk_kp m1620 t))) (fun H1633 r1634 => ?_)
      obtain ⟨hIH1633, hJH1633, w1635, m1636, p1637⟩ := r1634
      have e1638 : k0_2 = fZ H1633 0 2 := e1619.trans w1635.symm
      have m1639 : kpM H H1633 := kpM_t m1620 m1636
      obtain ⟨A1640, tA1640, G1641, cG1641, p1642, wdp1642, stp1642⟩ := p1637
      have uA1640 : tkW H A1640 := tk_kp m1620 tA1640
      obtain ⟨dpp1642, lap1642⟩ := (hp0 A1640 uA1640).2 G1641 cG1641 p1642 stp1642.1
      refine g_iconst (by decide) (fun v1643 kv1643 => ?_)
      refine g_istore_n (l' := [(0, .ref 0), (1, .int a1), (2, .int a2), (3, .int v1643)]) rfl rfl ?_
      refine g_iconst (by decide) (fun v1644 kv1644 => ?_)
      refine g_istore (l' := [(0, .ref 0), (1, .int a1), (2, .int a2), (3, .int v1643), (4, .int v1644)]) rfl rfl ?_
      refine g_nop ?_
      have L1647 : ∀ (N : Nat) (v1645 : Int32) (v1646 : Int32), (0 ≤ v1646.toInt ∧ v1646.toInt ≤ 40) → v1645.toInt = cnt (fun x => whM (fM A1640 G1641 p1642).1 (fM A1640 G1641 p1642).2 x = a1.toInt ∧ (((fM A1640 G1641 p1642).1).ii x = -5 ∨ ((fM A1640 G1641 p1642).1).op (((fM A1640 G1641 p1642).1).ii x).toNat = 1)) v1646.toInt.toNat → (0 ≤ v1645.toInt ∧ v1645.toInt ≤ v1646.toInt) → (40 - v1646.toInt).toNat < N → gG 6 zB_243 (mzBlk zB_243 3) [(0, .ref 0), (1, .int a1), (2, .int a2), (3, .int v1645), (4, .int v1646)] [] H1633 0 0 (gRi (fun v H' => gI SM H' ∧ JN H' ∧ fZ H' 0 2 = fZ H 0 2 ∧ kpM H H' ∧ ((v.toInt = -1 ∧ ¬ ((0 ≤ a1.toInt ∧ a1.toInt < (aZ H 2 0).toInt) ∧ (0 ≤ a2.toInt ∧ a2.toInt ≤ 999))) ∨ (((0 ≤ a1.toInt ∧ a1.toInt < (aZ H 2 0).toInt) ∧ (0 ≤ a2.toInt ∧ a2.toInt ≤ 999)) ∧ ∃ A : mzH, tkW H A ∧ ∃ G : mzH, clR (rgM G) (mdM G) ∧ ∃ p : Nat, stM A a2.toInt p ∧ v.toInt = cnt (fun x => whM (fM A G p).1 (fM A G p).2 x = a1.toInt ∧ (((fM A G p).1).ii x = -5 ∨ ((fM A G p).1).op (((fM A G p).1).ii x).toNat = 1)) 40)))) := by
        intro N
        induction N with
        | zero => intro v1645 v1646 bv1646 q1 q2 hmL1647; exact absurd hmL1647 (Nat.not_lt_zero _)
        | succ N ihL1647 =>
          intro v1645 v1646 bv1646 q1 q2 hmL1647
          refine g_iload rfl ?_
          refine g_bipush (by decide) (fun v1648 kv1648 => ?_)
          refine g_if2_ge (fun c1649 => ?_) (fun c1649 => ?_)
          · refine g_iload_n rfl ?_
            exact g_iret ⟨_, rfl, hIH1633, (JM_n hJH1633), (e1638.symm.trans ek0_2), m1639, (Or.inr ⟨by omega, ⟨A1640, uA1640, G1641, cG1641, p1642, stp1642,  (cn_end q1 (by omega))⟩⟩)⟩
          · refine g_aload_n rfl ?_
            refine g_gfr hIH1633 sm_0 rfl ?_
            refine g_iload rfl ?_
            refine g_iaload hIH1633 sm_9 rfl (by omega) (fun v1650 ev1650 lv1650 uv1650 => ?_)
            have qv1650 := JM_in hJH1633 (by omega) ev1650
            have yv1650 : v1650.toInt = ((fM A1640 G1641 p1642).1).ii v1646.toInt.toNat := by rw [ev1650]; exact (wdp1642 _ (by omega)).2.2.1
            have ddv1650 := dpt_1 dpp1642 (n := v1646.toInt.toNat) (by omega)
            refine g_bipush (by decide) (fun v1651 kv1651 => ?_)
            refine g_if2_eq (fun c1652 => ?_) (fun c1652 => ?_)
            · refine g_iconst (by decide) (fun v1653 kv1653 => ?_)
              refine g_goto ?_
              refine g_istore (l' := [(0, .ref 0), (1, .int a1), (2, .int a2), (3, .int v1645), (4, .int v1646), (5, .int v1653)]) rfl rfl ?_
              refine g_iload_n rfl ?_
              refine g_aload_n rfl ?_
              refine g_iload rfl ?_
              refine g_invvi hIH1633 sm_0 rfl rfl rfl rfl (r_201 v1646 (by omega) H1633 hIH1633 hJH1633 wdp1642 dpp1642) (fun v1656 H1654 r1655 => ?_)
              obtain ⟨rfl, bv1656, p1657⟩ := r1655
              refine g_iload_n rfl ?_
              refine g_if2_ne (fun c1658 => ?_) (fun c1658 => ?_)
              · refine g_iconst (by decide) (fun v1659 kv1659 => ?_)
                refine g_nop ?_
                refine g_iadd (by have := gz_any v1645; omega) (fun v1660 ev1660 => ?_)
                refine g_istore_n (l' := [(0, .ref 0), (1, .int a1), (2, .int a2), (3, .int v1660), (4, .int v1646), (5, .int v1653)]) rfl rfl ?_
                refine g_iinc (l' := (fun v1661 => [(0, .ref 0), (1, .int a1), (2, .int a2), (3, .int v1660), (4, .int v1661), (5, .int v1653)])) rfl rfl (by decide) (by omega) (fun _ => rfl) (fun v1661 ev1661 => ?_)
                refine g_goto ?_
                refine gG_pick [0, 1, 2, 3, 4] (l' := [(0, .ref 0), (1, .int a1), (2, .int a2), (3, .int v1660), (4, .int v1661)]) rfl ?_
                exact ihL1647 v1660 v1661 (by omega) (cn_n q1 (by omega) (by show ¬ (whM (fM A1640 G1641 p1642).1 (fM A1640 G1641 p1642).2 v1646.toInt.toNat = a1.toInt ∧ (((fM A1640 G1641 p1642).1).ii v1646.toInt.toNat = -5 ∨ ((fM A1640 G1641 p1642).1).op (((fM A1640 G1641 p1642).1).ii v1646.toInt.toNat).toNat = 1)); omega) (by omega)) (by omega) (by omega)
              · refine g_iload rfl ?_
                refine g_if_eq (fun c1662 => ?_) (fun c1662 => ?_)
                · exfalso; omega
                · refine g_iconst (by decide) (fun v1663 kv1663 => ?_)
                  refine g_goto ?_
                  refine g_iadd' (fun v1664 ov1664 => ?_)
                  have sv1664 : v1664.toInt = v1645.toInt + v1663.toInt := gz_add_of ov1664 (by omega)
                  refine g_istore_n (l' := [(0, .ref 0), (1, .int a1), (2, .int a2), (3, .int v1664), (4, .int v1646), (5, .int v1653)]) rfl rfl ?_
                  refine g_iinc (l' := (fun v1665 => [(0, .ref 0), (1, .int a1), (2, .int a2), (3, .int v1664), (4, .int v1665), (5, .int v1653)])) rfl rfl (by decide) (by omega) (fun _ => rfl) (fun v1665 ev1665 => ?_)
                  refine g_goto ?_
                  refine gG_pick [0, 1, 2, 3, 4] (l' := [(0, .ref 0), (1, .int a1), (2, .int a2), (3, .int v1664), (4, .int v1665)]) rfl ?_
                  exact ihL1647 v1664 v1665 (by omega) (cn_y q1 (by omega) (by show (whM (fM A1640 G1641 p1642).1 (fM A1640 G1641 p1642).2 v1646.toInt.toNat = a1.toInt ∧ (((fM A1640 G1641 p1642).1).ii v1646.toInt.toNat = -5 ∨ ((fM A1640 G1641 p1642).1).op (((fM A1640 G1641 p1642).1).ii v1646.toInt.toNat).toNat = 1)); omega) (by omega)) (by omega) (by omega)
            · refine g_aload_n rfl ?_
              refine g_gfr hIH1633 sm_0 rfl ?_
              refine g_aload_n rfl ?_
              refine g_gfr hIH1633 sm_0 rfl ?_
              refine g_iload rfl ?_
              refine g_ialoadk hIH1633 sm_9 rfl (by omega) ev1650 ?_
              refine g_baload hIH1633 sm_13 rfl (by omega) (fun v1666 ev1666 lv1666 uv1666 => ?_)
              have yv1666 : v1666.toInt = ((fM A1640 G1641 p1642).1).op v1650.toInt.toNat := by rw [ev1666]; exact (wdp1642 _ (by omega)).2.2.2.2.2.2.1
              rw [yv1650] at yv1666
              refine g_if_eq (fun c1667 => ?_) (fun c1667 => ?_)
              · refine g_iconst (by decide) (fun v1668 kv1668 => ?_)
                refine g_nop ?_
                refine g_istore (l' := [(0, .ref 0), (1, .int a1), (2, .int a2), (3, .int v1645), (4, .int v1646), (5, .int v1668)]) rfl rfl ?_
                refine g_iload_n rfl ?_
                refine g_aload_n rfl ?_
                refine g_iload rfl ?_
                refine g_invvi hIH1633 sm_0 rfl rfl rfl rfl (r_201 v1646 (by omega) H1633 hIH1633 hJH1633 wdp1642 dpp1642) (fun v1671 H1669 r1670 => ?_)
                obtain ⟨rfl, bv1671, p1672⟩ := r1670
                refine g_iload_n rfl ?_
                refine g_if2_ne (fun c1673 => ?_) (fun c1673 => ?_)
                · refine g_iconst (by decide) (fun v1674 kv1674 => ?_)
                  refine g_nop ?_
                  refine g_iadd (by have := gz_any v1645; omega) (fun v1675 ev1675 => ?_)
                  refine g_istore_n (l' := [(0, .ref 0), (1, .int a1), (2, .int a2), (3, .int v1675), (4, .int v1646), (5, .int v1668)]) rfl rfl ?_
                  refine g_iinc (l' := (fun v1676 => [(0, .ref 0), (1, .int a1), (2, .int a2), (3, .int v1675), (4, .int v1676), (5, .int v1668)])) rfl rfl (by decide) (by omega) (fun _ => rfl) (fun v1676 ev1676 => ?_)
                  refine g_goto ?_
                  refine gG_pick [0, 1, 2, 3, 4] (l' := [(0, .ref 0), (1, .int a1), (2, .int a2), (3, .int v1675), (4, .int v1676)]) rfl ?_
                  exact ihL1647 v1675 v1676 (by omega) (cn_n q1 (by omega) (by show ¬ (whM (fM A1640 G1641 p1642).1 (fM A1640 G1641 p1642).2 v1646.toInt.toNat = a1.toInt ∧ (((fM A1640 G1641 p1642).1).ii v1646.toInt.toNat = -5 ∨ ((fM A1640 G1641 p1642).1).op (((fM A1640 G1641 p1642).1).ii v1646.toInt.toNat).toNat = 1)); omega) (by omega)) (by omega) (by omega)
                · refine g_iload rfl ?_
                  refine g_if_eq (fun c1677 => ?_) (fun c1677 => ?_)
                  · refine g_iconst (by decide) (fun v1678 kv1678 => ?_)
                    refine g_nop ?_
                    refine g_iadd (by have := gz_any v1645; omega) (fun v1679 ev1679 => ?_)
                    refine g_istore_n (l' := [(0, .ref 0), (1, .int a1), (2, .int a2), (3, .int v1679), (4, .int v1646), (5, .int v1668)]) rfl rfl ?_
                    refine g_iinc (l' := (fun v1680 => [(0, .ref 0), (1, .int a1), (2, .int a2), (3, .int v1679), (4, .int v1680), (5, .int v1668)])) rfl rfl (by decide) (by omega) (fun _ => rfl) (fun v1680 ev1680 => ?_)
                    refine g_goto ?_
                    refine gG_pick [0, 1, 2, 3, 4] (l' := [(0, .ref 0), (1, .int a1), (2, .int a2), (3, .int v1679), (4, .int v1680)]) rfl ?_
                    exact ihL1647 v1679 v1680 (by omega) (cn_n q1 (by omega) (by show ¬ (whM (fM A1640 G1641 p1642).1 (fM A1640 G1641 p1642).2 v1646.toInt.toNat = a1.toInt ∧ (((fM A1640 G1641 p1642).1).ii v1646.toInt.toNat = -5 ∨ ((fM A1640 G1641 p1642).1).op (((fM A1640 G1641 p1642).1).ii v1646.toInt.toNat).toNat = 1)); omega) (by omega)) (by omega) (by omega)
                  · exfalso; omega
              · refine g_nop ?_
                refine g_iconst (by decide) (fun v1681 kv1681 => ?_)
                refine g_goto ?_
                refine g_istore (l' := [(0, .ref 0), (1, .int a1), (2, .int a2), (3, .int v1645), (4, .int v1646), (5, .int v1681)]) rfl rfl ?_
                refine g_iload_n rfl ?_
                refine g_aload_n rfl ?_
                refine g_iload rfl ?_
                refine g_invvi hIH1633 sm_0 rfl rfl rfl rfl (r_201 v1646 (by omega) H1633 hIH1633 hJH1633 wdp1642 dpp1642) (fun v1684 H1682 r1683 => ?_)
                obtain ⟨rfl, bv1684, p1685⟩ := r1683
                refine g_iload_n rfl ?_
                refine g_if2_ne (fun c1686 => ?_) (fun c1686 => ?_)
                · refine g_iconst (by decide) (fun v1687 kv1687 => ?_)
                  refine g_nop ?_
                  refine g_iadd (by have := gz_any v1645; omega) (fun v1688 ev1688 => ?_)
                  refine g_istore_n (l' := [(0, .ref 0), (1, .int a1), (2, .int a2), (3, .int v1688), (4, .int v1646), (5, .int v1681)]) rfl rfl ?_
                  refine g_iinc (l' := (fun v1689 => [(0, .ref 0), (1, .int a1), (2, .int a2), (3, .int v1688), (4, .int v1689), (5, .int v1681)])) rfl rfl (by decide) (by omega) (fun _ => rfl) (fun v1689 ev1689 => ?_)
                  refine g_goto ?_
                  refine gG_pick [0, 1, 2, 3, 4] (l' := [(0, .ref 0), (1, .int a1), (2, .int a2), (3, .int v1688), (4, .int v1689)]) rfl ?_
                  exact ihL1647 v1688 v1689 (by omega) (cn_n q1 (by omega) (by show ¬ (whM (fM A1640 G1641 p1642).1 (fM A1640 G1641 p1642).2 v1646.toInt.toNat = a1.toInt ∧ (((fM A1640 G1641 p1642).1).ii v1646.toInt.toNat = -5 ∨ ((fM A1640 G1641 p1642).1).op (((fM A1640 G1641 p1642).1).ii v1646.toInt.toNat).toNat = 1)); omega) (by omega)) (by omega) (by omega)
                · refine g_iload rfl ?_
                  refine g_if_eq (fun c1690 => ?_) (fun c1690 => ?_)
                  · exfalso; omega
                  · refine g_iconst (by decide) (fun v1691 kv1691 => ?_)
                    refine g_goto ?_
                    refine g_iadd' (fun v1692 ov1692 => ?_)
                    have sv1692 : v1692.toInt = v1645.toInt + v1691.toInt := gz_add_of ov1692 (by omega)
                    refine g_istore_n (l' := [(0, .ref 0), (1, .int a1), (2, .int a2), (3, .int v1692), (4, .int v1646), (5, .int v1681)]) rfl rfl ?_
                    refine g_iinc (l' := (fun v1693 => [(0, .ref 0), (1, .int a1), (2, .int a2), (3, .int v1692), (4, .int v1693), (5, .int v1681)])) rfl rfl (by decide) (by omega) (fun _ => rfl) (fun v1693 ev1693 => ?_)
                    refine g_goto ?_
                    refine gG_pick [0, 1, 2, 3, 4] (l' := [(0, .ref 0), (1, .int a1), (2, .int a2), (3, .int v1692), (4, .int v1693)]) rfl ?_
                    exact ihL1647 v1692 v1693 (by omega) (cn_y q1 (by omega) (by show (whM (fM A1640 G1641 p1642).1 (fM A1640 G1641 p1642).2 v1646.toInt.toNat = a1.toInt ∧ (((fM A1640 G1641 p1642).1).ii v1646.toInt.toNat = -5 ∨ ((fM A1640 G1641 p1642).1).op (((fM A1640 G1641 p1642).1).ii v1646.toInt.toNat).toNat = 1)); omega) (by omega)) (by omega) (by omega)
      exact L1647 _ v1643 v1644 (by omega) (cn_0 (by omega) (by omega)) (by omega) (Nat.lt_succ_self _)
    · refine g_nop ?_
      refine g_iconst (by decide) (fun v1694 kv1694 => ?_)
      exact g_iret ⟨_, rfl, hIH1618, hJH1618, (e1619.symm.trans ek0_2), m1620, (Or.inl ⟨by omega, by omega⟩)⟩
