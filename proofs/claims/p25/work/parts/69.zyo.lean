theorem fw_0 {P : Nat → Prop} [DecidablePred P] {s b : Int} {k : Nat} (e : k = 0) (h : s = b) : s = b + cnt P k := by
  subst e
  show s = b + 0
  omega
theorem fw_y {P : Nat → Prop} [DecidablePred P] {s b m : Int} {k k2 : Nat} (q : s = b + cnt P k) (e : k2 = k + 1) (h : P k) (hm : m = s + 1) : m = b + cnt P k2 := by
  subst e
  show m = b + (cnt P k + (if P k then 1 else 0))
  rw [if_pos h]
  omega
theorem fw_n {P : Nat → Prop} [DecidablePred P] {s b m : Int} {k k2 : Nat} (q : s = b + cnt P k) (e : k2 = k + 1) (h : ¬ P k) (hm : m = s) : m = b + cnt P k2 := by
  subst e
  show m = b + (cnt P k + (if P k then 1 else 0))
  rw [if_neg h]
  omega
theorem fl_e {t : Nat × (Nat → Int) × (Nat → Int) × Int} {a b s c w : Int} {k : Nat} (q : s = c + cnt (fun i => t.2.1 i = a ∧ t.2.1 (i + 1) = b) k) (h : trC t a b = w) (e : k = t.1 - 1) : s = c + w := by
  rw [← h, q, e]
  rfl
set_option maxRecDepth 4000 in
set_option maxHeartbeats 4000000 in
/-- M.flow -/
theorem r_218 {w : Nat → Int} (a1 : Int32) (a2 : Int32) (H : mzH) (hI : gI SM H) (hJ : JN H) (hp0 : ((∀ A, tkW H A → gdM A))) (hp1 : (∀ n : Nat, n < 40 → ∀ A : mzH, tkW H A → ∀ G : mzH, clR (rgM G) (mdM G) → trC (trS (fun q => whM (fM A G (q + 1)).1 (fM A G (q + 1)).2 n) (hqM A) (cnM A)) a1.toInt a2.toInt = w n)) : gCall 218 [.ref 0, .int a1, .int a2] H (gRi (fun v H' => gI SM H' ∧ JN H' ∧ fZ H' 0 2 = fZ H 0 2 ∧ kpM H H' ∧ ((v.toInt = -1 ∧ ¬ ((a1.toInt = -3 ∨ (0 ≤ a1.toInt ∧ a1.toInt < (aZ H 2 0).toInt)) ∧ (a2.toInt = -4 ∨ a2.toInt = -3 ∨ (0 ≤ a2.toInt ∧ a2.toInt < (aZ H 2 0).toInt)) ∧ ¬ a1.toInt = a2.toInt)) ∨ (((a1.toInt = -3 ∨ (0 ≤ a1.toInt ∧ a1.toInt < (aZ H 2 0).toInt)) ∧ (a2.toInt = -4 ∨ a2.toInt = -3 ∨ (0 ≤ a2.toInt ∧ a2.toInt < (aZ H 2 0).toInt)) ∧ ¬ a1.toInt = a2.toInt) ∧ v.toInt = smF w 40)))) := by
  obtain ⟨k0_2, ek0_2⟩ : ∃ z, z = fZ H 0 2 := ⟨_, rfl⟩
  have ik0_2 : k0_2.toInt = (fZ H 0 2).toInt := by rw [← ek0_2]
  have bk0_2 : 0 ≤ k0_2.toInt ∧ k0_2.toInt ≤ 900 := by rw [ek0_2]; exact fZ_of hI sm_0 rfl
  have mkfr : kpM H H := kpM_r
  refine gG_call [(0, .ref 0), (1, .int a1), (2, .int a2)] ⟨rfl, rfl, rfl, trivial⟩ ?_
  show gG 7 zB_218 (mzBlk zB_218 0) [(0, .ref 0), (1, .int a1), (2, .int a2)] [] H 0 0 _
  refine g_aload_n rfl ?_
  refine g_iconst (by decide) (fun v1569 kv1569 => ?_)
  refine g_pfi hI sm_0 rfl (gz_any _) (fun H1570 eH1570 hIH1570 => ?_)
  have hJH1570 : JN H1570 := JN_sF eH1570 hJ
  have e1571 : k0_2 = fZ H1570 0 2 := by rw [eH1570, fZ_sF_ne (by decide)]; exact ek0_2
  have m1572 : kpM H H1570 := kpM_F mkfr eH1570 (by omega)
  refine g_aload_n rfl ?_
  refine g_iload_n rfl ?_
  refine g_invvi hIH1570 sm_0 rfl rfl rfl rfl (r_210 a1 H1570 hIH1570 hJH1570) (fun v1575 H1573 r1574 => ?_)
  obtain ⟨rfl, bv1575, p1576, p1577⟩ := r1574
  rw [m1572.1 2 (by decide)] at p1576
  refine g_if_ne (fun c1578 => ?_) (fun c1578 => ?_)
  · refine g_aload_n rfl ?_
    refine g_iload_n rfl ?_
    refine g_invvi hIH1570 sm_0 rfl rfl rfl rfl (r_210 a2 H1570 hIH1570 hJH1570) (fun v1581 H1579 r1580 => ?_)
    obtain ⟨rfl, bv1581, p1582, p1583⟩ := r1580
    rw [m1572.1 2 (by decide)] at p1582
    refine g_if_ne (fun c1584 => ?_) (fun c1584 => ?_)
    · refine g_iload_n rfl ?_
      refine g_iload_n rfl ?_
      refine g_if2_eq (fun c1585 => ?_) (fun c1585 => ?_)
      · refine g_iconst (by decide) (fun v1586 kv1586 => ?_)
        refine g_nop ?_
        refine g_istore_n (l' := [(0, .ref 0), (1, .int a1), (2, .int a2), (3, .int v1586)]) rfl rfl ?_
        refine g_iload_n rfl ?_
        refine g_if_ne (fun c1587 => ?_) (fun c1587 => ?_)
        · exfalso; omega
        · refine g_iconst (by decide) (fun v1588 kv1588 => ?_)
          exact g_iret ⟨_, rfl, hIH1570, hJH1570, (e1571.symm.trans ek0_2), m1572, (Or.inl ⟨by omega, by omega⟩)⟩
      · refine g_iconst (by decide) (fun v1589 kv1589 => ?_)
        refine g_goto ?_
        refine g_istore_n (l' := [(0, .ref 0), (1, .int a1), (2, .int a2), (3, .int v1589)]) rfl rfl ?_
        refine g_iload_n rfl ?_
        refine g_if_ne (fun c1590 => ?_) (fun c1590 => ?_)
        · refine g_iconst (by decide) (fun v1591 kv1591 => ?_)
          refine g_istore (l' := [(0, .ref 0), (1, .int a1), (2, .int a2), (3, .int v1589), (4, .int v1591)]) rfl rfl ?_
          refine g_iconst (by decide) (fun v1592 kv1592 => ?_)
          refine g_istore (l' := [(0, .ref 0), (1, .int a1), (2, .int a2), (3, .int v1589), (4, .int v1591), (5, .int v1592)]) rfl rfl ?_
          refine g_nop ?_
          have L1598 : ∀ (N : Nat) (v1593 : Int32) (v1594 : Int32) (H1595 : mzH), gI SM H1595 → JN H1595 → k0_2 = fZ H1595 0 2 → kpM H H1595 → (0 ≤ v1593.toInt ∧ v1593.toInt ≤ 2400) → (0 ≤ v1594.toInt ∧ v1594.toInt ≤ 40) → v1593.toInt = smF w v1594.toInt.toNat → (0 ≤ v1593.toInt ∧ v1593.toInt ≤ 60 * v1594.toInt) → (40 - v1594.toInt).toNat < N → gG 7 zB_218 (mzBlk zB_218 6) [(0, .ref 0), (1, .int a1), (2, .int a2), (3, .int v1589), (4, .int v1593), (5, .int v1594)] [] H1595 0 0 (gRi (fun v H' => gI SM H' ∧ JN H' ∧ fZ H' 0 2 = fZ H 0 2 ∧ kpM H H' ∧ ((v.toInt = -1 ∧ ¬ ((a1.toInt = -3 ∨ (0 ≤ a1.toInt ∧ a1.toInt < (aZ H 2 0).toInt)) ∧ (a2.toInt = -4 ∨ a2.toInt = -3 ∨ (0 ≤ a2.toInt ∧ a2.toInt < (aZ H 2 0).toInt)) ∧ ¬ a1.toInt = a2.toInt)) ∨ (((a1.toInt = -3 ∨ (0 ≤ a1.toInt ∧ a1.toInt < (aZ H 2 0).toInt)) ∧ (a2.toInt = -4 ∨ a2.toInt = -3 ∨ (0 ≤ a2.toInt ∧ a2.toInt < (aZ H 2 0).toInt)) ∧ ¬ a1.toInt = a2.toInt) ∧ v.toInt = smF w 40)))) := by
            intro N
            induction N with
            | zero => intro v1593 v1594 H1595 hIH1595 hJH1595 e1596 m1597 bv1593 bv1594 q1 q2 hmL1598; exact absurd hmL1598 (Nat.not_lt_zero _)
            | succ N ihL1598 =>
              intro v1593 v1594 H1595 hIH1595 hJH1595 e1596 m1597 bv1593 bv1594 q1 q2 hmL1598
              refine g_iload rfl ?_
              refine g_bipush (by decide) (fun v1599 kv1599 => ?_)
              refine g_if2_ge (fun c1600 => ?_) (fun c1600 => ?_)
              · refine g_iload rfl ?_
                exact g_iret ⟨_, rfl, hIH1595, hJH1595, (e1596.symm.trans ek0_2), m1597, (Or.inr ⟨by omega, by rw [show (40 : Nat) = v1594.toInt.toNat by omega]; exact q1⟩)⟩
              · refine g_aload_n rfl ?_
                refine g_iload rfl ?_
                refine g_invvv hIH1595 sm_0 rfl rfl rfl rfl (r_214 v1594 (by omega) H1595 hIH1595 hJH1595 (fun A t => hp0 A (tk_kp m1597 t))) (fun H1601 r1602 => ?_)
                obtain ⟨hIH1601, hJH1601, w1603, m1604, p1605⟩ := r1602
                have e1606 : k0_2 = fZ H1601 0 2 := e1596.trans w1603.symm
                have m1607 : kpM H H1601 := kpM_t m1597 m1604
                obtain ⟨A1608, ttA1608, G1609, cG1609, tnG1609, taG1609⟩ := p1605
                have uA1608 : tkW H A1608 := tk_kp m1597 ttA1608
                have pwG1609 := hp1 v1594.toInt.toNat (by omega) A1608 uA1608 G1609 cG1609
                refine g_iconst (by decide) (fun v1610 kv1610 => ?_)
                refine g_istore (l' := [(0, .ref 0), (1, .int a1), (2, .int a2), (3, .int v1589), (4, .int v1593), (5, .int v1594), (6, .int v1610)]) rfl rfl ?_
                refine g_nop ?_
                have L1613 : ∀ (N : Nat) (v1611 : Int32) (v1612 : Int32), (0 ≤ v1611.toInt ∧ v1611.toInt ≤ 2460) → (0 ≤ v1612.toInt ∧ v1612.toInt ≤ 59) → v1611.toInt = v1593.toInt + cnt (fun i => (trS (fun q => whM (fM A1608 G1609 (q + 1)).1 (fM A1608 G1609 (q + 1)).2 v1594.toInt.toNat) (hqM A1608) (cnM A1608)).2.1 i = a1.toInt ∧ (trS (fun q => whM (fM A1608 G1609 (q + 1)).1 (fM A1608 G1609 (q + 1)).2 v1594.toInt.toNat) (hqM A1608) (cnM A1608)).2.1 (i + 1) = a2.toInt) v1612.toInt.toNat → (v1612.toInt = 0 ∨ v1612.toInt + 1 ≤ ((trS (fun q => whM (fM A1608 G1609 (q + 1)).1 (fM A1608 G1609 (q + 1)).2 v1594.toInt.toNat) (hqM A1608) (cnM A1608)).1 : Int)) → (v1593.toInt ≤ v1611.toInt ∧ v1611.toInt ≤ v1593.toInt + v1612.toInt) → (59 - v1612.toInt).toNat < N → gG 7 zB_218 (mzBlk zB_218 7) [(0, .ref 0), (1, .int a1), (2, .int a2), (3, .int v1589), (4, .int v1611), (5, .int v1594), (6, .int v1612)] [] H1601 0 0 (gRi (fun v H' => gI SM H' ∧ JN H' ∧ fZ H' 0 2 = fZ H 0 2 ∧ kpM H H' ∧ ((v.toInt = -1 ∧ ¬ ((a1.toInt = -3 ∨ (0 ≤ a1.toInt ∧ a1.toInt < (aZ H 2 0).toInt)) ∧ (a2.toInt = -4 ∨ a2.toInt = -3 ∨ (0 ≤ a2.toInt ∧ a2.toInt < (aZ H 2 0).toInt)) ∧ ¬ a1.toInt = a2.toInt)) ∨ (((a1.toInt = -3 ∨ (0 ≤ a1.toInt ∧ a1.toInt < (aZ H 2 0).toInt)) ∧ (a2.toInt = -4 ∨ a2.toInt = -3 ∨ (0 ≤ a2.toInt ∧ a2.toInt < (aZ H 2 0).toInt)) ∧ ¬ a1.toInt = a2.toInt) ∧ v.toInt = smF w 40)))) := by
                  intro N
                  induction N with
                  | zero => intro v1611 v1612 bv1611 bv1612 q6 q7 q8 hmL1613; exact absurd hmL1613 (Nat.not_lt_zero _)
                  | succ N ihL1613 =>
                    intro v1611 v1612 bv1611 bv1612 q6 q7 q8 hmL1613
                    refine g_iload rfl ?_
                    refine g_iconst (by decide) (fun v1614 kv1614 => ?_)
                    refine g_iadd (by omega) (fun v1615 ev1615 => ?_)
                    refine g_aload_n rfl ?_
                    refine g_gfi hIH1601 sm_0 rfl (fun v1616 ev1616 lv1616 uv1616 => ?_)
                    have zv1616 : v1616.toInt = (fZ H1601 0 39).toInt := by rw [ev1616]
                    have ztv1616 : v1616.toInt = ((trS (fun q => whM (fM A1608 G1609 (q + 1)).1 (fM A1608 G1609 (q + 1)).2 v1594.toInt.toNat) (hqM A1608) (cnM A1608)).1 : Int) := by rw [zv1616]; exact tnG1609
                    refine g_if2_ge (fun c1617 => ?_) (fun c1617 => ?_)
                    · refine g_iinc (l' := (fun v1618 => [(0, .ref 0), (1, .int a1), (2, .int a2), (3, .int v1589), (4, .int v1611), (5, .int v1618), (6, .int v1612)])) rfl rfl (by decide) (by omega) (fun _ => rfl) (fun v1618 ev1618 => ?_)
                      refine g_goto ?_
                      refine gG_pick [0, 1, 2, 3, 4, 5] (l' := [(0, .ref 0), (1, .int a1), (2, .int a2), (3, .int v1589), (4, .int v1611), (5, .int v1618)]) rfl ?_
                      exact ihL1598 v1611 v1618 H1601 hIH1601 (JM_n hJH1601) e1606 m1607 (by omega) (by omega) (sm_s q1 (by omega) (fl_e q6 pwG1609 (by omega))) (by omega) (by omega)
                    · refine g_iload rfl ?_
                      refine g_aload_n rfl ?_
                      refine g_gfr hIH1601 sm_0 rfl ?_
                      refine g_iload rfl ?_
                      refine g_iaload hIH1601 sm_22 rfl (by omega) (fun v1619 ev1619 lv1619 uv1619 => ?_)
                      have yv1619 : v1619.toInt = (trS (fun q => whM (fM A1608 G1609 (q + 1)).1 (fM A1608 G1609 (q + 1)).2 v1594.toInt.toNat) (hqM A1608) (cnM A1608)).2.1 v1612.toInt.toNat := by rw [ev1619]; exact (taG1609 v1612.toInt.toNat (by omega)).1
                      refine g_iload_n rfl ?_
                      refine g_if2_ne (fun c1620 => ?_) (fun c1620 => ?_)
                      · refine g_iconst (by decide) (fun v1621 kv1621 => ?_)
                        refine g_nop ?_
                        refine g_iadd (by omega) (fun v1622 ev1622 => ?_)
                        refine g_istore (l' := [(0, .ref 0), (1, .int a1), (2, .int a2), (3, .int v1589), (4, .int v1622), (5, .int v1594), (6, .int v1612)]) rfl rfl ?_
                        refine g_iinc (l' := (fun v1623 => [(0, .ref 0), (1, .int a1), (2, .int a2), (3, .int v1589), (4, .int v1622), (5, .int v1594), (6, .int v1623)])) rfl rfl (by decide) (by omega) (fun _ => rfl) (fun v1623 ev1623 => ?_)
                        refine g_goto ?_
                        exact ihL1613 v1622 v1623 (by omega) (by omega) (fw_n q6 (by omega) (by show ¬ ((trS (fun q => whM (fM A1608 G1609 (q + 1)).1 (fM A1608 G1609 (q + 1)).2 v1594.toInt.toNat) (hqM A1608) (cnM A1608)).2.1 v1612.toInt.toNat = a1.toInt ∧ (trS (fun q => whM (fM A1608 G1609 (q + 1)).1 (fM A1608 G1609 (q + 1)).2 v1594.toInt.toNat) (hqM A1608) (cnM A1608)).2.1 (v1612.toInt.toNat + 1) = a2.toInt); omega) (by omega)) (by omega) (by omega) (by omega)
                      · refine g_aload_n rfl ?_
                        refine g_gfr hIH1601 sm_0 rfl ?_
                        refine g_iload rfl ?_
                        refine g_iconst (by decide) (fun v1624 kv1624 => ?_)
                        refine g_iadd (by omega) (fun v1625 ev1625 => ?_)
                        refine g_iaload hIH1601 sm_22 rfl (by omega) (fun v1626 ev1626 lv1626 uv1626 => ?_)
                        have yv1626 : v1626.toInt = (trS (fun q => whM (fM A1608 G1609 (q + 1)).1 (fM A1608 G1609 (q + 1)).2 v1594.toInt.toNat) (hqM A1608) (cnM A1608)).2.1 (v1612.toInt.toNat + 1) := by rw [ev1626, show v1625.toInt.toNat = v1612.toInt.toNat + 1 by omega]; exact (taG1609 (v1612.toInt.toNat + 1) (by omega)).1
                        refine g_iload_n rfl ?_
                        refine g_if2_ne (fun c1627 => ?_) (fun c1627 => ?_)
                        · refine g_iconst (by decide) (fun v1628 kv1628 => ?_)
                          refine g_nop ?_
                          refine g_iadd (by omega) (fun v1629 ev1629 => ?_)
                          refine g_istore (l' := [(0, .ref 0), (1, .int a1), (2, .int a2), (3, .int v1589), (4, .int v1629), (5, .int v1594), (6, .int v1612)]) rfl rfl ?_
                          refine g_iinc (l' := (fun v1630 => [(0, .ref 0), (1, .int a1), (2, .int a2), (3, .int v1589), (4, .int v1629), (5, .int v1594), (6, .int v1630)])) rfl rfl (by decide) (by omega) (fun _ => rfl) (fun v1630 ev1630 => ?_)
                          refine g_goto ?_
                          exact ihL1613 v1629 v1630 (by omega) (by omega) (fw_n q6 (by omega) (by show ¬ ((trS (fun q => whM (fM A1608 G1609 (q + 1)).1 (fM A1608 G1609 (q + 1)).2 v1594.toInt.toNat) (hqM A1608) (cnM A1608)).2.1 v1612.toInt.toNat = a1.toInt ∧ (trS (fun q => whM (fM A1608 G1609 (q + 1)).1 (fM A1608 G1609 (q + 1)).2 v1594.toInt.toNat) (hqM A1608) (cnM A1608)).2.1 (v1612.toInt.toNat + 1) = a2.toInt); omega) (by omega)) (by omega) (by omega) (by omega)
                        · refine g_iconst (by decide) (fun v1631 kv1631 => ?_)
                          refine g_goto ?_
                          refine g_iadd (by omega) (fun v1632 ev1632 => ?_)
                          refine g_istore (l' := [(0, .ref 0), (1, .int a1), (2, .int a2), (3, .int v1589), (4, .int v1632), (5, .int v1594), (6, .int v1612)]) rfl rfl ?_
                          refine g_iinc (l' := (fun v1633 => [(0, .ref 0), (1, .int a1), (2, .int a2), (3, .int v1589), (4, .int v1632), (5, .int v1594), (6, .int v1633)])) rfl rfl (by decide) (by omega) (fun _ => rfl) (fun v1633 ev1633 => ?_)
                          refine g_goto ?_
                          exact ihL1613 v1632 v1633 (by omega) (by omega) (fw_y q6 (by omega) (by show ((trS (fun q => whM (fM A1608 G1609 (q + 1)).1 (fM A1608 G1609 (q + 1)).2 v1594.toInt.toNat) (hqM A1608) (cnM A1608)).2.1 v1612.toInt.toNat = a1.toInt ∧ (trS (fun q => whM (fM A1608 G1609 (q + 1)).1 (fM A1608 G1609 (q + 1)).2 v1594.toInt.toNat) (hqM A1608) (cnM A1608)).2.1 (v1612.toInt.toNat + 1) = a2.toInt); omega) (by omega)) (by omega) (by omega) (by omega)
                exact L1613 _ v1593 v1610 (by omega) (by omega) (fw_0 (by omega) (by omega)) (by omega) (by omega) (Nat.lt_succ_self _)
          exact L1598 _ v1591 v1592 H1570 hIH1570 hJH1570 e1571 m1572 (by omega) (by omega) (smf_0 (by omega) (by omega)) (by omega) (Nat.lt_succ_self _)
        · exfalso; omega
    · refine g_iload_n rfl ?_
      refine g_bipush (by decide) (fun v1634 kv1634 => ?_)
      refine g_if2_eq (fun c1635 => ?_) (fun c1635 => ?_)
      · refine g_iload_n rfl ?_
        refine g_iload_n rfl ?_
        refine g_if2_eq (fun c1636 => ?_) (fun c1636 => ?_)
        · exfalso; omega
        · refine g_iconst (by decide) (fun v1637 kv1637 => ?_)
          refine g_goto ?_
          refine g_istore_n (l' := [(0, .ref 0), (1, .int a1), (2, .int a2), (3, .int v1637)]) rfl rfl ?_
          refine g_iload_n rfl ?_
          refine g_if_ne (fun c1638 => ?_) (fun c1638 => ?_)
          · refine g_iconst (by decide) (fun v1639 kv1639 => ?_)
            refine g_istore (l' := [(0, .ref 0), (1, .int a1), (2, .int a2), (3, .int v1637), (4, .int v1639)]) rfl rfl ?_
            refine g_iconst (by decide) (fun v1640 kv1640 => ?_)
            refine g_istore (l' := [(0, .ref 0), (1, .int a1), (2, .int a2), (3, .int v1637), (4, .int v1639), (5, .int v1640)]) rfl rfl ?_
            refine g_nop ?_
            have L1646 : ∀ (N : Nat) (v1641 : Int32) (v1642 : Int32) (H1643 : mzH), gI SM H1643 → JN H1643 → k0_2 = fZ H1643 0 2 → kpM H H1643 → (0 ≤ v1641.toInt ∧ v1641.toInt ≤ 2400) → (0 ≤ v1642.toInt ∧ v1642.toInt ≤ 40) → v1641.toInt = smF w v1642.toInt.toNat → (0 ≤ v1641.toInt ∧ v1641.toInt ≤ 60 * v1642.toInt) → (40 - v1642.toInt).toNat < N → gG 7 zB_218 (mzBlk zB_218 6) [(0, .ref 0), (1, .int a1), (2, .int a2), (3, .int v1637), (4, .int v1641), (5, .int v1642)] [] H1643 0 0 (gRi (fun v H' => gI SM H' ∧ JN H' ∧ fZ H' 0 2 = fZ H 0 2 ∧ kpM H H' ∧ ((v.toInt = -1 ∧ ¬ ((a1.toInt = -3 ∨ (0 ≤ a1.toInt ∧ a1.toInt < (aZ H 2 0).toInt)) ∧ (a2.toInt = -4 ∨ a2.toInt = -3 ∨ (0 ≤ a2.toInt ∧ a2.toInt < (aZ H 2 0).toInt)) ∧ ¬ a1.toInt = a2.toInt)) ∨ (((a1.toInt = -3 ∨ (0 ≤ a1.toInt ∧ a1.toInt < (aZ H 2 0).toInt)) ∧ (a2.toInt = -4 ∨ a2.toInt = -3 ∨ (0 ≤ a2.toInt ∧ a2.toInt < (aZ H 2 0).toInt)) ∧ ¬ a1.toInt = a2.toInt) ∧ v.toInt = smF w 40)))) := by
              intro N
              induction N with
              | zero => intro v1641 v1642 H1643 hIH1643 hJH1643 e1644 m1645 bv1641 bv1642 q1 q2 hmL1646; exact absurd hmL1646 (Nat.not_lt_zero _)
              | succ N ihL1646 =>
                intro v1641 v1642 H1643 hIH1643 hJH1643 e1644 m1645 bv1641 bv1642 q1 q2 hmL1646
                refine g_iload rfl ?_
                refine g_bipush (by decide) (fun v1647 kv1647 => ?_)
                refine g_if2_ge (fun c1648 => ?_) (fun c1648 => ?_)
                · refine g_iload rfl ?_
                  exact g_iret ⟨_, rfl, hIH1643, hJH1643, (e1644.symm.trans ek0_2), m1645, (Or.inr ⟨by omega, by rw [show (40 : Nat) = v1642.toInt.toNat by omega]; exact q1⟩)⟩
                · refine g_aload_n rfl ?_
                  refine g_iload rfl ?_
                  refine g_invvv hIH1643 sm_0 rfl rfl rfl rfl (r_214 v1642 (by omega) H1643 hIH1643 hJH1643 (fun A t => hp0 A (tk_kp m1645 t))) (fun H1649 r1650 => ?_)
                  obtain ⟨hIH1649, hJH1649, w1651, m1652, p1653⟩ := r1650
                  have e1654 : k0_2 = fZ H1649 0 2 := e1644.trans w1651.symm
                  have m1655 : kpM H H1649 := kpM_t m1645 m1652
                  obtain ⟨A1656, ttA1656, G1657, cG1657, tnG1657, taG1657⟩ := p1653
                  have uA1656 : tkW H A1656 := tk_kp m1645 ttA1656
                  have pwG1657 := hp1 v1642.toInt.toNat (by omega) A1656 uA1656 G1657 cG1657
                  refine g_iconst (by decide) (fun v1658 kv1658 => ?_)
                  refine g_istore (l' := [(0, .ref 0), (1, .int a1), (2, .int a2), (3, .int v1637), (4, .int v1641), (5, .int v1642), (6, .int v1658)]) rfl rfl ?_
                  refine g_nop ?_
                  have L1661 : ∀ (N : Nat) (v1659 : Int32) (v1660 : Int32), (0 ≤ v1659.toInt ∧ v1659.toInt ≤ 2460) → (0 ≤ v1660.toInt ∧ v1660.toInt ≤ 59) → v1659.toInt = v1641.toInt + cnt (fun i => (trS (fun q => whM (fM A1656 G1657 (q + 1)).1 (fM A1656 G1657 (q + 1)).2 v1642.toInt.toNat) (hqM A1656) (cnM A1656)).2.1 i = a1.toInt ∧ (trS (fun q => whM (fM A1656 G1657 (q + 1)).1 (fM A1656 G1657 (q + 1)).2 v1642.toInt.toNat) (hqM A1656) (cnM A1656)).2.1 (i + 1) = a2.toInt) v1660.toInt.toNat → (v1660.toInt = 0 ∨ v1660.toInt + 1 ≤ ((trS (fun q => whM (fM A1656 G1657 (q + 1)).1 (fM A1656 G1657 (q + 1)).2 v1642.toInt.toNat) (hqM A1656) (cnM A1656)).1 : Int)) → (v1641.toInt ≤ v1659.toInt ∧ v1659.toInt ≤ v1641.toInt + v1660.toInt) → (59 - v1660.toInt).toNat < N → gG 7 zB_218 (mzBlk zB_218 7) [(0, .ref 0), (1, .int a1), (2, .int a2), (3, .int v1637), (4, .int v1659), (5, .int v1642), (6, .int v1660)] [] H1649 0 0 (gRi (fun v H' => gI SM H' ∧ JN H' ∧ fZ H' 0 2 = fZ H 0 2 ∧ kpM H H' ∧ ((v.toInt = -1 ∧ ¬ ((a1.toInt = -3 ∨ (0 ≤ a1.toInt ∧ a1.toInt < (aZ H 2 0).toInt)) ∧ (a2.toInt = -4 ∨ a2.toInt = -3 ∨ (0 ≤ a2.toInt ∧ a2.toInt < (aZ H 2 0).toInt)) ∧ ¬ a1.toInt = a2.toInt)) ∨ (((a1.toInt = -3 ∨ (0 ≤ a1.toInt ∧ a1.toInt < (aZ H 2 0).toInt)) ∧ (a2.toInt = -4 ∨ a2.toInt = -3 ∨ (0 ≤ a2.toInt ∧ a2.toInt < (aZ H 2 0).toInt)) ∧ ¬ a1.toInt = a2.toInt) ∧ v.toInt = smF w 40)))) := by
                    intro N
                    induction N with
                    | zero => intro v1659 v1660 bv1659 bv1660 q6 q7 q8 hmL1661; exact absurd hmL1661 (Nat.not_lt_zero _)
                    | succ N ihL1661 =>
                      intro v1659 v1660 bv1659 bv1660 q6 q7 q8 hmL1661
                      refine g_iload rfl ?_
                      refine g_iconst (by decide) (fun v1662 kv1662 => ?_)
                      refine g_iadd (by omega) (fun v1663 ev1663 => ?_)
                      refine g_aload_n rfl ?_
                      refine g_gfi hIH1649 sm_0 rfl (fun v1664 ev1664 lv1664 uv1664 => ?_)
                      have zv1664 : v1664.toInt = (fZ H1649 0 39).toInt := by rw [ev1664]
                      have ztv1664 : v1664.toInt = ((trS (fun q => whM (fM A1656 G1657 (q + 1)).1 (fM A1656 G1657 (q + 1)).2 v1642.toInt.toNat) (hqM A1656) (cnM A1656)).1 : Int) := by rw [zv1664]; exact tnG1657
                      refine g_if2_ge (fun c1665 => ?_) (fun c1665 => ?_)
                      · refine g_iinc (l' := (fun v1666 => [(0, .ref 0), (1, .int a1), (2, .int a2), (3, .int v1637), (4, .int v1659), (5, .int v1666), (6, .int v1660)])) rfl rfl (by decide) (by omega) (fun _ => rfl) (fun v1666 ev1666 => ?_)
                        refine g_goto ?_
                        refine gG_pick [0, 1, 2, 3, 4, 5] (l' := [(0, .ref 0), (1, .int a1), (2, .int a2), (3, .int v1637), (4, .int v1659), (5, .int v1666)]) rfl ?_
                        exact ihL1646 v1659 v1666 H1649 hIH1649 (JM_n hJH1649) e1654 m1655 (by omega) (by omega) (sm_s q1 (by omega) (fl_e q6 pwG1657 (by omega))) (by omega) (by omega)
                      · refine g_iload rfl ?_
                        refine g_aload_n rfl ?_
                        refine g_gfr hIH1649 sm_0 rfl ?_
                        refine g_iload rfl ?_
                        refine g_iaload hIH1649 sm_22 rfl (by omega) (fun v1667 ev1667 lv1667 uv1667 => ?_)
                        have yv1667 : v1667.toInt = (trS (fun q => whM (fM A1656 G1657 (q + 1)).1 (fM A1656 G1657 (q + 1)).2 v1642.toInt.toNat) (hqM A1656) (cnM A1656)).2.1 v1660.toInt.toNat := by rw [ev1667]; exact (taG1657 v1660.toInt.toNat (by omega)).1
                        refine g_iload_n rfl ?_
                        refine g_if2_ne (fun c1668 => ?_) (fun c1668 => ?_)
                        · refine g_iconst (by decide) (fun v1669 kv1669 => ?_)
                          refine g_nop ?_
                          refine g_iadd (by omega) (fun v1670 ev1670 => ?_)
                          refine g_istore (l' := [(0, .ref 0), (1, .int a1), (2, .int a2), (3, .int v1637), (4, .int v1670), (5, .int v1642), (6, .int v1660)]) rfl rfl ?_
                          refine g_iinc (l' := (fun v1671 => [(0, .ref 0), (1, .int a1), (2, .int a2), (3, .int v1637), (4, .int v1670), (5, .int v1642), (6, .int v1671)])) rfl rfl (by decide) (by omega) (fun _ => rfl) (fun v1671 ev1671 => ?_)
                          refine g_goto ?_
                          exact ihL1661 v1670 v1671 (by omega) (by omega) (fw_n q6 (by omega) (by show ¬ ((trS (fun q => whM (fM A1656 G1657 (q + 1)).1 (fM A1656 G1657 (q + 1)).2 v1642.toInt.toNat) (hqM A1656) (cnM A1656)).2.1 v1660.toInt.toNat = a1.toInt ∧ (trS (fun q => whM (fM A1656 G1657 (q + 1)).1 (fM A1656 G1657 (q + 1)).2 v1642.toInt.toNat) (hqM A1656) (cnM A1656)).2.1 (v1660.toInt.toNat + 1) = a2.toInt); omega) (by omega)) (by omega) (by omega) (by omega)
                        · refine g_aload_n rfl ?_
                          refine g_gfr hIH1649 sm_0 rfl ?_
                          refine g_iload rfl ?_
                          refine g_iconst (by decide) (fun v1672 kv1672 => ?_)
                          refine g_iadd (by omega) (fun v1673 ev1673 => ?_)
                          refine g_iaload hIH1649 sm_22 rfl (by omega) (fun v1674 ev1674 lv1674 uv1674 => ?_)
                          have yv1674 : v1674.toInt = (trS (fun q => whM (fM A1656 G1657 (q + 1)).1 (fM A1656 G1657 (q + 1)).2 v1642.toInt.toNat) (hqM A1656) (cnM A1656)).2.1 (v1660.toInt.toNat + 1) := by rw [ev1674, show v1673.toInt.toNat = v1660.toInt.toNat + 1 by omega]; exact (taG1657 (v1660.toInt.toNat + 1) (by omega)).1
                          refine g_iload_n rfl ?_
                          refine g_if2_ne (fun c1675 => ?_) (fun c1675 => ?_)
                          · refine g_iconst (by decide) (fun v1676 kv1676 => ?_)
                            refine g_nop ?_
                            refine g_iadd (by omega) (fun v1677 ev1677 => ?_)
                            refine g_istore (l' := [(0, .ref 0), (1, .int a1), (2, .int a2), (3, .int v1637), (4, .int v1677), (5, .int v1642), (6, .int v1660)]) rfl rfl ?_
                            refine g_iinc (l' := (fun v1678 => [(0, .ref 0), (1, .int a1), (2, .int a2), (3, .int v1637), (4, .int v1677), (5, .int v1642), (6, .int v1678)])) rfl rfl (by decide) (by omega) (fun _ => rfl) (fun v1678 ev1678 => ?_)
                            refine g_goto ?_
                            exact ihL1661 v1677 v1678 (by omega) (by omega) (fw_n q6 (by omega) (by show ¬ ((trS (fun q => whM (fM A1656 G1657 (q + 1)).1 (fM A1656 G1657 (q + 1)).2 v1642.toInt.toNat) (hqM A1656) (cnM A1656)).2.1 v1660.toInt.toNat = a1.toInt ∧ (trS (fun q => whM (fM A1656 G1657 (q + 1)).1 (fM A1656 G1657 (q + 1)).2 v1642.toInt.toNat) (hqM A1656) (cnM A1656)).2.1 (v1660.toInt.toNat + 1) = a2.toInt); omega) (by omega)) (by omega) (by omega) (by omega)
                          · refine g_iconst (by decide) (fun v1679 kv1679 => ?_)
                            refine g_goto ?_
                            refine g_iadd (by omega) (fun v1680 ev1680 => ?_)
                            refine g_istore (l' := [(0, .ref 0), (1, .int a1), (2, .int a2), (3, .int v1637), (4, .int v1680), (5, .int v1642), (6, .int v1660)]) rfl rfl ?_
                            refine g_iinc (l' := (fun v1681 => [(0, .ref 0), (1, .int a1), (2, .int a2), (3, .int v1637), (4, .int v1680), (5, .int v1642), (6, .int v1681)])) rfl rfl (by decide) (by omega) (fun _ => rfl) (fun v1681 ev1681 => ?_)
                            refine g_goto ?_
                            exact ihL1661 v1680 v1681 (by omega) (by omega) (fw_y q6 (by omega) (by show ((trS (fun q => whM (fM A1656 G1657 (q + 1)).1 (fM A1656 G1657 (q + 1)).2 v1642.toInt.toNat) (hqM A1656) (cnM A1656)).2.1 v1660.toInt.toNat = a1.toInt ∧ (trS (fun q => whM (fM A1656 G1657 (q + 1)).1 (fM A1656 G1657 (q + 1)).2 v1642.toInt.toNat) (hqM A1656) (cnM A1656)).2.1 (v1660.toInt.toNat + 1) = a2.toInt); omega) (by omega)) (by omega) (by omega) (by omega)
                  exact L1661 _ v1641 v1658 (by omega) (by omega) (fw_0 (by omega) (by omega)) (by omega) (by omega) (Nat.lt_succ_self _)
            exact L1646 _ v1639 v1640 H1570 hIH1570 hJH1570 e1571 m1572 (by omega) (by omega) (smf_0 (by omega) (by omega)) (by omega) (Nat.lt_succ_self _)
          · exfalso; omega
      · refine g_iload_n rfl ?_
        refine g_bipush (by decide) (fun v1682 kv1682 => ?_)
        refine g_if2_ne (fun c1683 => ?_) (fun c1683 => ?_)
        · refine g_iconst (by decide) (fun v1684 kv1684 => ?_)
          refine g_nop ?_
          refine g_istore_n (l' := [(0, .ref 0), (1, .int a1), (2, .int a2), (3, .int v1684)]) rfl rfl ?_
          refine g_iload_n rfl ?_
          refine g_if_ne (fun c1685 => ?_) (fun c1685 => ?_)
          · exfalso; omega
          · refine g_iconst (by decide) (fun v1686 kv1686 => ?_)
            exact g_iret ⟨_, rfl, hIH1570, hJH1570, (e1571.symm.trans ek0_2), m1572, (Or.inl ⟨by omega, by omega⟩)⟩
        · refine g_nop ?_
          refine g_iload_n rfl ?_
          refine g_iload_n rfl ?_
          refine g_if2_eq (fun c1687 => ?_) (fun c1687 => ?_)
          · exfalso; omega
          · refine g_iconst (by decide) (fun v1688 kv1688 => ?_)
            refine g_goto ?_
            refine g_istore_n (l' := [(0, .ref 0), (1, .int a1), (2, .int a2), (3, .int v1688)]) rfl rfl ?_
            refine g_iload_n rfl ?_
            refine g_if_ne (fun c1689 => ?_) (fun c1689 => ?_)
            · refine g_iconst (by decide) (fun v1690 kv1690 => ?_)
              refine g_istore (l' := [(0, .ref 0), (1, .int a1), (2, .int a2), (3, .int v1688), (4, .int v1690)]) rfl rfl ?_
              refine g_iconst (by decide) (fun v1691 kv1691 => ?_)
              refine g_istore (l' := [(0, .ref 0), (1, .int a1), (2, .int a2), (3, .int v1688), (4, .int v1690), (5, .int v1691)]) rfl rfl ?_
              refine g_nop ?_
              have L1697 : ∀ (N : Nat) (v1692 : Int32) (v1693 : Int32) (H1694 : mzH), gI SM H1694 → JN H1694 → k0_2 = fZ H1694 0 2 → kpM H H1694 → (0 ≤ v1692.toInt ∧ v1692.toInt ≤ 2400) → (0 ≤ v1693.toInt ∧ v1693.toInt ≤ 40) → v1692.toInt = smF w v1693.toInt.toNat → (0 ≤ v1692.toInt ∧ v1692.toInt ≤ 60 * v1693.toInt) → (40 - v1693.toInt).toNat < N → gG 7 zB_218 (mzBlk zB_218 6) [(0, .ref 0), (1, .int a1), (2, .int a2), (3, .int v1688), (4, .int v1692), (5, .int v1693)] [] H1694 0 0 (gRi (fun v H' => gI SM H' ∧ JN H' ∧ fZ H' 0 2 = fZ H 0 2 ∧ kpM H H' ∧ ((v.toInt = -1 ∧ ¬ ((a1.toInt = -3 ∨ (0 ≤ a1.toInt ∧ a1.toInt < (aZ H 2 0).toInt)) ∧ (a2.toInt = -4 ∨ a2.toInt = -3 ∨ (0 ≤ a2.toInt ∧ a2.toInt < (aZ H 2 0).toInt)) ∧ ¬ a1.toInt = a2.toInt)) ∨ (((a1.toInt = -3 ∨ (0 ≤ a1.toInt ∧ a1.toInt < (aZ H 2 0).toInt)) ∧ (a2.toInt = -4 ∨ a2.toInt = -3 ∨ (0 ≤ a2.toInt ∧ a2.toInt < (aZ H 2 0).toInt)) ∧ ¬ a1.toInt = a2.toInt) ∧ v.toInt = smF w 40)))) := by
                intro N
                induction N with
                | zero => intro v1692 v1693 H1694 hIH1694 hJH1694 e1695 m1696 bv1692 bv1693 q1 q2 hmL1697; exact absurd hmL1697 (Nat.not_lt_zero _)
                | succ N ihL1697 =>
                  intro v1692 v1693 H1694 hIH1694 hJH1694 e1695 m1696 bv1692 bv1693 q1 q2 hmL1697
                  refine g_iload rfl ?_
                  refine g_bipush (by decide) (fun v1698 kv1698 => ?_)
                  refine g_if2_ge (fun c1699 => ?_) (fun c1699 => ?_)
                  · refine g_iload rfl ?_
                    exact g_iret ⟨_, rfl, hIH1694, hJH1694, (e1695.symm.trans ek0_2), m1696, (Or.inr ⟨by omega, by rw [show (40 : Nat) = v1693.toInt.toNat by omega]; exact q1⟩)⟩
                  · refine g_aload_n rfl ?_
                    refine g_iload rfl ?_
                    refine g_invvv hIH1694 sm_0 rfl rfl rfl rfl (r_214 v1693 (by omega) H1694 hIH1694 hJH1694 (fun A t => hp0 A (tk_kp m1696 t))) (fun H1700 r1701 => ?_)
                    obtain ⟨hIH1700, hJH1700, w1702, m1703, p1704⟩ := r1701
                    have e1705 : k0_2 = fZ H1700 0 2 := e1695.trans w1702.symm
                    have m1706 : kpM H H1700 := kpM_t m1696 m1703
                    obtain ⟨A1707, ttA1707, G1708, cG1708, tnG1708, taG1708⟩ := p1704
                    have uA1707 : tkW H A1707 := tk_kp m1696 ttA1707
                    have pwG1708 := hp1 v1693.toInt.toNat (by omega) A1707 uA1707 G1708 cG1708
                    refine g_iconst (by decide) (fun v1709 kv1709 => ?_)
                    refine g_istore (l' := [(0, .ref 0), (1, .int a1), (2, .int a2), (3, .int v1688), (4, .int v1692), (5, .int v1693), (6, .int v1709)]) rfl rfl ?_
                    refine g_nop ?_
                    have L1712 : ∀ (N : Nat) (v1710 : Int32) (v1711 : Int32), (0 ≤ v1710.toInt ∧ v1710.toInt ≤ 2460) → (0 ≤ v1711.toInt ∧ v1711.toInt ≤ 59) → v1710.toInt = v1692.toInt + cnt (fun i => (trS (fun q => whM (fM A1707 G1708 (q + 1)).1 (fM A1707 G1708 (q + 1)).2 v1693.toInt.toNat) (hqM A1707) (cnM A1707)).2.1 i = a1.toInt ∧ (trS (fun q => whM (fM A1707 G1708 (q + 1)).1 (fM A1707 G1708 (q + 1)).2 v1693.toInt.toNat) (hqM A1707) (cnM A1707)).2.1 (i + 1) = a2.toInt) v1711.toInt.toNat → (v1711.toInt = 0 ∨ v1711.toInt + 1 ≤ ((trS (fun q => whM (fM A1707 G1708 (q + 1)).1 (fM A1707 G1708 (q + 1)).2 v1693.toInt.toNat) (hqM A1707) (cnM A1707)).1 : Int)) → (v1692.toInt ≤ v1710.toInt ∧ v1710.toInt ≤ v1692.toInt + v1711.toInt) → (59 - v1711.toInt).toNat < N → gG 7 zB_218 (mzBlk zB_218 7) [(0, .ref 0), (1, .int a1), (2, .int a2), (3, .int v1688), (4, .int v1710), (5, .int v1693), (6, .int v1711)] [] H1700 0 0 (gRi (fun v H' => gI SM H' ∧ JN H' ∧ fZ H' 0 2 = fZ H 0 2 ∧ kpM H H' ∧ ((v.toInt = -1 ∧ ¬ ((a1.toInt = -3 ∨ (0 ≤ a1.toInt ∧ a1.toInt < (aZ H 2 0).toInt)) ∧ (a2.toInt = -4 ∨ a2.toInt = -3 ∨ (0 ≤ a2.toInt ∧ a2.toInt < (aZ H 2 0).toInt)) ∧ ¬ a1.toInt = a2.toInt)) ∨ (((a1.toInt = -3 ∨ (0 ≤ a1.toInt ∧ a1.toInt < (aZ H 2 0).toInt)) ∧ (a2.toInt = -4 ∨ a2.toInt = -3 ∨ (0 ≤ a2.toInt ∧ a2.toInt < (aZ H 2 0).toInt)) ∧ ¬ a1.toInt = a2.toInt) ∧ v.toInt = smF w 40)))) := by
                      intro N
                      induction N with
                      | zero => intro v1710 v1711 bv1710 bv1711 q6 q7 q8 hmL1712; exact absurd hmL1712 (Nat.not_lt_zero _)
                      | succ N ihL1712 =>
                        intro v1710 v1711 bv1710 bv1711 q6 q7 q8 hmL1712
                        refine g_iload rfl ?_
                        refine g_iconst (by decide) (fun v1713 kv1713 => ?_)
                        refine g_iadd (by omega) (fun v1714 ev1714 => ?_)
                        refine g_aload_n rfl ?_
                        refine g_gfi hIH1700 sm_0 rfl (fun v1715 ev1715 lv1715 uv1715 => ?_)
                        have zv1715 : v1715.toInt = (fZ H1700 0 39).toInt := by rw [ev1715]
                        have ztv1715 : v1715.toInt = ((trS (fun q => whM (fM A1707 G1708 (q + 1)).1 (fM A1707 G1708 (q + 1)).2 v1693.toInt.toNat) (hqM A1707) (cnM A1707)).1 : Int) := by rw [zv1715]; exact tnG1708
                        refine g_if2_ge (fun c1716 => ?_) (fun c1716 => ?_)
                        · refine g_iinc (l' := (fun v1717 => [(0, .ref 0), (1, .int a1), (2, .int a2), (3, .int v1688), (4, .int v1710), (5, .int v1717), (6, .int v1711)])) rfl rfl (by decide) (by omega) (fun _ => rfl) (fun v1717 ev1717 => ?_)
                          refine g_goto ?_
                          refine gG_pick [0, 1, 2, 3, 4, 5] (l' := [(0, .ref 0), (1, .int a1), (2, .int a2), (3, .int v1688), (4, .int v1710), (5, .int v1717)]) rfl ?_
                          exact ihL1697 v1710 v1717 H1700 hIH1700 (JM_n hJH1700) e1705 m1706 (by omega) (by omega) (sm_s q1 (by omega) (fl_e q6 pwG1708 (by omega))) (by omega) (by omega)
                        · refine g_iload rfl ?_
                          refine g_aload_n rfl ?_
                          refine g_gfr hIH1700 sm_0 rfl ?_
                          refine g_iload rfl ?_
                          refine g_iaload hIH1700 sm_22 rfl (by omega) (fun v1718 ev1718 lv1718 uv1718 => ?_)
                          have yv1718 : v1718.toInt = (trS (fun q => whM (fM A1707 G1708 (q + 1)).1 (fM A1707 G1708 (q + 1)).2 v1693.toInt.toNat) (hqM A1707) (cnM A1707)).2.1 v1711.toInt.toNat := by rw [ev1718]; exact (taG1708 v1711.toInt.toNat (by omega)).1
                          refine g_iload_n rfl ?_
                          refine g_if2_ne (fun c1719 => ?_) (fun c1719 => ?_)
                          · refine g_iconst (by decide) (fun v1720 kv1720 => ?_)
                            refine g_nop ?_
                            refine g_iadd (by omega) (fun v1721 ev1721 => ?_)
                            refine g_istore (l' := [(0, .ref 0), (1, .int a1), (2, .int a2), (3, .int v1688), (4, .int v1721), (5, .int v1693), (6, .int v1711)]) rfl rfl ?_
                            refine g_iinc (l' := (fun v1722 => [(0, .ref 0), (1, .int a1), (2, .int a2), (3, .int v1688), (4, .int v1721), (5, .int v1693), (6, .int v1722)])) rfl rfl (by decide) (by omega) (fun _ => rfl) (fun v1722 ev1722 => ?_)
                            refine g_goto ?_
                            exact ihL1712 v1721 v1722 (by omega) (by omega) (fw_n q6 (by omega) (by show ¬ ((trS (fun q => whM (fM A1707 G1708 (q + 1)).1 (fM A1707 G1708 (q + 1)).2 v1693.toInt.toNat) (hqM A1707) (cnM A1707)).2.1 v1711.toInt.toNat = a1.toInt ∧ (trS (fun q => whM (fM A1707 G1708 (q + 1)).1 (fM A1707 G1708 (q + 1)).2 v1693.toInt.toNat) (hqM A1707) (cnM A1707)).2.1 (v1711.toInt.toNat + 1) = a2.toInt); omega) (by omega)) (by omega) (by omega) (by omega)
                          · refine g_aload_n rfl ?_
                            refine g_gfr hIH1700 sm_0 rfl ?_
                            refine g_iload rfl ?_
                            refine g_iconst (by decide) (fun v1723 kv1723 => ?_)
                            refine g_iadd (by omega) (fun v1724 ev1724 => ?_)
                            refine g_iaload hIH1700 sm_22 rfl (by omega) (fun v1725 ev1725 lv1725 uv1725 => ?_)
                            have yv1725 : v1725.toInt = (trS (fun q => whM (fM A1707 G1708 (q + 1)).1 (fM A1707 G1708 (q + 1)).2 v1693.toInt.toNat) (hqM A1707) (cnM A1707)).2.1 (v1711.toInt.toNat + 1) := by rw [ev1725, show v1724.toInt.toNat = v1711.toInt.toNat + 1 by omega]; exact (taG1708 (v1711.toInt.toNat + 1) (by omega)).1
                            refine g_iload_n rfl ?_
                            refine g_if2_ne (fun c1726 => ?_) (fun c1726 => ?_)
                            · refine g_iconst (by decide) (fun v1727 kv1727 => ?_)
                              refine g_nop ?_
                              refine g_iadd (by omega) (fun v1728 ev1728 => ?_)
                              refine g_istore (l' := [(0, .ref 0), (1, .int a1), (2, .int a2), (3, .int v1688), (4, .int v1728), (5, .int v1693), (6, .int v1711)]) rfl rfl ?_
                              refine g_iinc (l' := (fun v1729 => [(0, .ref 0), (1, .int a1), (2, .int a2), (3, .int v1688), (4, .int v1728), (5, .int v1693), (6, .int v1729)])) rfl rfl (by decide) (by omega) (fun _ => rfl) (fun v1729 ev1729 => ?_)
                              refine g_goto ?_
                              exact ihL1712 v1728 v1729 (by omega) (by omega) (fw_n q6 (by omega) (by show ¬ ((trS (fun q => whM (fM A1707 G1708 (q + 1)).1 (fM A1707 G1708 (q + 1)).2 v1693.toInt.toNat) (hqM A1707) (cnM A1707)).2.1 v1711.toInt.toNat = a1.toInt ∧ (trS (fun q => whM (fM A1707 G1708 (q + 1)).1 (fM A1707 G1708 (q + 1)).2 v1693.toInt.toNat) (hqM A1707) (cnM A1707)).2.1 (v1711.toInt.toNat + 1) = a2.toInt); omega) (by omega)) (by omega) (by omega) (by omega)
                            · refine g_iconst (by decide) (fun v1730 kv1730 => ?_)
                              refine g_goto ?_
                              refine g_iadd (by omega) (fun v1731 ev1731 => ?_)
                              refine g_istore (l' := [(0, .ref 0), (1, .int a1), (2, .int a2), (3, .int v1688), (4, .int v1731), (5, .int v1693), (6, .int v1711)]) rfl rfl ?_
                              refine g_iinc (l' := (fun v1732 => [(0, .ref 0), (1, .int a1), (2, .int a2), (3, .int v1688), (4, .int v1731), (5, .int v1693), (6, .int v1732)])) rfl rfl (by decide) (by omega) (fun _ => rfl) (fun v1732 ev1732 => ?_)
                              refine g_goto ?_
                              exact ihL1712 v1731 v1732 (by omega) (by omega) (fw_y q6 (by omega) (by show ((trS (fun q => whM (fM A1707 G1708 (q + 1)).1 (fM A1707 G1708 (q + 1)).2 v1693.toInt.toNat) (hqM A1707) (cnM A1707)).2.1 v1711.toInt.toNat = a1.toInt ∧ (trS (fun q => whM (fM A1707 G1708 (q + 1)).1 (fM A1707 G1708 (q + 1)).2 v1693.toInt.toNat) (hqM A1707) (cnM A1707)).2.1 (v1711.toInt.toNat + 1) = a2.toInt); omega) (by omega)) (by omega) (by omega) (by omega)
                    exact L1712 _ v1692 v1709 (by omega) (by omega) (fw_0 (by omega) (by omega)) (by omega) (by omega) (Nat.lt_succ_self _)
              exact L1697 _ v1690 v1691 H1570 hIH1570 hJH1570 e1571 m1572 (by omega) (by omega) (smf_0 (by omega) (by omega)) (by omega) (Nat.lt_succ_self _)
            · exfalso; omega
  · refine g_iload_n rfl ?_
    refine g_bipush (by decide) (fun v1733 kv1733 => ?_)
    refine g_if2_ne (fun c1734 => ?_) (fun c1734 => ?_)
    · refine g_iconst (by decide) (fun v1735 kv1735 => ?_)
      refine g_nop ?_
      refine g_istore_n (l' := [(0, .ref 0), (1, .int a1), (2, .int a2), (3, .int v1735)]) rfl rfl ?_
      refine g_iload_n rfl ?_
      refine g_if_ne (fun c1736 => ?_) (fun c1736 => ?_)
      · exfalso; omega
      · refine g_iconst (by decide) (fun v1737 kv1737 => ?_)
        exact g_iret ⟨_, rfl, hIH1570, hJH1570, (e1571.symm.trans ek0_2), m1572, (Or.inl ⟨by omega, by omega⟩)⟩
    · refine g_nop ?_
      refine g_aload_n rfl ?_
      refine g_iload_n rfl ?_
      refine g_invvi hIH1570 sm_0 rfl rfl rfl rfl (r_210 a2 H1570 hIH1570 hJH1570) (fun v1740 H1738 r1739 => ?_)
      obtain ⟨rfl, bv1740, p1741, p1742⟩ := r1739
      rw [m1572.1 2 (by decide)] at p1741
      refine g_if_ne (fun c1743 => ?_) (fun c1743 => ?_)
      · refine g_iload_n rfl ?_
        refine g_iload_n rfl ?_
        refine g_if2_eq (fun c1744 => ?_) (fun c1744 => ?_)
        · exfalso; omega
        · refine g_iconst (by decide) (fun v1745 kv1745 => ?_)
          refine g_goto ?_
          refine g_istore_n (l' := [(0, .ref 0), (1, .int a1), (2, .int a2), (3, .int v1745)]) rfl rfl ?_
          refine g_iload_n rfl ?_
          refine g_if_ne (fun c1746 => ?_) (fun c1746 => ?_)
          · refine g_iconst (by decide) (fun v1747 kv1747 => ?_)
            refine g_istore (l' := [(0, .ref 0), (1, .int a1), (2, .int a2), (3, .int v1745), (4, .int v1747)]) rfl rfl ?_
            refine g_iconst (by decide) (fun v1748 kv1748 => ?_)
            refine g_istore (l' := [(0, .ref 0), (1, .int a1), (2, .int a2), (3, .int v1745), (4, .int v1747), (5, .int v1748)]) rfl rfl ?_
            refine g_nop ?_
            have L1754 : ∀ (N : Nat) (v1749 : Int32) (v1750 : Int32) (H1751 : mzH), gI SM H1751 → JN H1751 → k0_2 = fZ H1751 0 2 → kpM H H1751 → (0 ≤ v1749.toInt ∧ v1749.toInt ≤ 2400) → (0 ≤ v1750.toInt ∧ v1750.toInt ≤ 40) → v1749.toInt = smF w v1750.toInt.toNat → (0 ≤ v1749.toInt ∧ v1749.toInt ≤ 60 * v1750.toInt) → (40 - v1750.toInt).toNat < N → gG 7 zB_218 (mzBlk zB_218 6) [(0, .ref 0), (1, .int a1), (2, .int a2), (3, .int v1745), (4, .int v1749), (5, .int v1750)] [] H1751 0 0 (gRi (fun v H' => gI SM H' ∧ JN H' ∧ fZ H' 0 2 = fZ H 0 2 ∧ kpM H H' ∧ ((v.toInt = -1 ∧ ¬ ((a1.toInt = -3 ∨ (0 ≤ a1.toInt ∧ a1.toInt < (aZ H 2 0).toInt)) ∧ (a2.toInt = -4 ∨ a2.toInt = -3 ∨ (0 ≤ a2.toInt ∧ a2.toInt < (aZ H 2 0).toInt)) ∧ ¬ a1.toInt = a2.toInt)) ∨ (((a1.toInt = -3 ∨ (0 ≤ a1.toInt ∧ a1.toInt < (aZ H 2 0).toInt)) ∧ (a2.toInt = -4 ∨ a2.toInt = -3 ∨ (0 ≤ a2.toInt ∧ a2.toInt < (aZ H 2 0).toInt)) ∧ ¬ a1.toInt = a2.toInt) ∧ v.toInt = smF w 40)))) := by
              intro N
              induction N with
              | zero => intro v1749 v1750 H1751 hIH1751 hJH1751 e1752 m1753 bv1749 bv1750 q1 q2 hmL1754; exact absurd hmL1754 (Nat.not_lt_zero _)
              | succ N ihL1754 =>
                intro v1749 v1750 H1751 hIH1751 hJH1751 e1752 m1753 bv1749 bv1750 q1 q2 hmL1754
                refine g_iload rfl ?_
                refine g_bipush (by decide) (fun v1755 kv1755 => ?_)
                refine g_if2_ge (fun c1756 => ?_) (fun c1756 => ?_)
                · refine g_iload rfl ?_
                  exact g_iret ⟨_, rfl, hIH1751, hJH1751, (e1752.symm.trans ek0_2), m1753, (Or.inr ⟨by omega, by rw [show (40 : Nat) = v1750.toInt.toNat by omega]; exact q1⟩)⟩
                · refine g_aload_n rfl ?_
                  refine g_iload rfl ?_
                  refine g_invvv hIH1751 sm_0 rfl rfl rfl rfl (r_214 v1750 (by omega) H1751 hIH1751 hJH1751 (fun A t => hp0 A (tk_kp m1753 t))) (fun H1757 r1758 => ?_)
                  obtain ⟨hIH1757, hJH1757, w1759, m1760, p1761⟩ := r1758
                  have e1762 : k0_2 = fZ H1757 0 2 := e1752.trans w1759.symm
                  have m1763 : kpM H H1757 := kpM_t m1753 m1760
                  obtain ⟨A1764, ttA1764, G1765, cG1765, tnG1765, taG1765⟩ := p1761
                  have uA1764 : tkW H A1764 := tk_kp m1753 ttA1764
                  have pwG1765 := hp1 v1750.toInt.toNat (by omega) A1764 uA1764 G1765 cG1765
                  refine g_iconst (by decide) (fun v1766 kv1766 => ?_)
                  refine g_istore (l' := [(0, .ref 0), (1, .int a1), (2, .int a2), (3, .int v1745), (4, .int v1749), (5, .int v1750), (6, .int v1766)]) rfl rfl ?_
                  refine g_nop ?_
                  have L1769 : ∀ (N : Nat) (v1767 : Int32) (v1768 : Int32), (0 ≤ v1767.toInt ∧ v1767.toInt ≤ 2460) → (0 ≤ v1768.toInt ∧ v1768.toInt ≤ 59) → v1767.toInt = v1749.toInt + cnt (fun i => (trS (fun q => whM (fM A1764 G1765 (q + 1)).1 (fM A1764 G1765 (q + 1)).2 v1750.toInt.toNat) (hqM A1764) (cnM A1764)).2.1 i = a1.toInt ∧ (trS (fun q => whM (fM A1764 G1765 (q + 1)).1 (fM A1764 G1765 (q + 1)).2 v1750.toInt.toNat) (hqM A1764) (cnM A1764)).2.1 (i + 1) = a2.toInt) v1768.toInt.toNat → (v1768.toInt = 0 ∨ v1768.toInt + 1 ≤ ((trS (fun q => whM (fM A1764 G1765 (q + 1)).1 (fM A1764 G1765 (q + 1)).2 v1750.toInt.toNat) (hqM A1764) (cnM A1764)).1 : Int)) → (v1749.toInt ≤ v1767.toInt ∧ v1767.toInt ≤ v1749.toInt + v1768.toInt) → (59 - v1768.toInt).toNat < N → gG 7 zB_218 (mzBlk zB_218 7) [(0, .ref 0), (1, .int a1), (2, .int a2), (3, .int v1745), (4, .int v1767), (5, .int v1750), (6, .int v1768)] [] H1757 0 0 (gRi (fun v H' => gI SM H' ∧ JN H' ∧ fZ H' 0 2 = fZ H 0 2 ∧ kpM H H' ∧ ((v.toInt = -1 ∧ ¬ ((a1.toInt = -3 ∨ (0 ≤ a1.toInt ∧ a1.toInt < (aZ H 2 0).toInt)) ∧ (a2.toInt = -4 ∨ a2.toInt = -3 ∨ (0 ≤ a2.toInt ∧ a2.toInt < (aZ H 2 0).toInt)) ∧ ¬ a1.toInt = a2.toInt)) ∨ (((a1.toInt = -3 ∨ (0 ≤ a1.toInt ∧ a1.toInt < (aZ H 2 0).toInt)) ∧ (a2.toInt = -4 ∨ a2.toInt = -3 ∨ (0 ≤ a2.toInt ∧ a2.toInt < (aZ H 2 0).toInt)) ∧ ¬ a1.toInt = a2.toInt) ∧ v.toInt = smF w 40)))) := by
                    intro N
                    induction N with
                    | zero => intro v1767 v1768 bv1767 bv1768 q6 q7 q8 hmL1769; exact absurd hmL1769 (Nat.not_lt_zero _)
                    | succ N ihL1769 =>
                      intro v1767 v1768 bv1767 bv1768 q6 q7 q8 hmL1769
                      refine g_iload rfl ?_
                      refine g_iconst (by decide) (fun v1770 kv1770 => ?_)
                      refine g_iadd (by omega) (fun v1771 ev1771 => ?_)
                      refine g_aload_n rfl ?_
                      refine g_gfi hIH1757 sm_0 rfl (fun v1772 ev1772 lv1772 uv1772 => ?_)
                      have zv1772 : v1772.toInt = (fZ H1757 0 39).toInt := by rw [ev1772]
                      have ztv1772 : v1772.toInt = ((trS (fun q => whM (fM A1764 G1765 (q + 1)).1 (fM A1764 G1765 (q + 1)).2 v1750.toInt.toNat) (hqM A1764) (cnM A1764)).1 : Int) := by rw [zv1772]; exact tnG1765
                      refine g_if2_ge (fun c1773 => ?_) (fun c1773 => ?_)
                      · refine g_iinc (l' := (fun v1774 => [(0, .ref 0), (1, .int a1), (2, .int a2), (3, .int v1745), (4, .int v1767), (5, .int v1774), (6, .int v1768)])) rfl rfl (by decide) (by omega) (fun _ => rfl) (fun v1774 ev1774 => ?_)
                        refine g_goto ?_
                        refine gG_pick [0, 1, 2, 3, 4, 5] (l' := [(0, .ref 0), (1, .int a1), (2, .int a2), (3, .int v1745), (4, .int v1767), (5, .int v1774)]) rfl ?_
                        exact ihL1754 v1767 v1774 H1757 hIH1757 (JM_n hJH1757) e1762 m1763 (by omega) (by omega) (sm_s q1 (by omega) (fl_e q6 pwG1765 (by omega))) (by omega) (by omega)
                      · refine g_iload rfl ?_
                        refine g_aload_n rfl ?_
                        refine g_gfr hIH1757 sm_0 rfl ?_
                        refine g_iload rfl ?_
                        refine g_iaload hIH1757 sm_22 rfl (by omega) (fun v1775 ev1775 lv1775 uv1775 => ?_)
                        have yv1775 : v1775.toInt = (trS (fun q => whM (fM A1764 G1765 (q + 1)).1 (fM A1764 G1765 (q + 1)).2 v1750.toInt.toNat) (hqM A1764) (cnM A1764)).2.1 v1768.toInt.toNat := by rw [ev1775]; exact (taG1765 v1768.toInt.toNat (by omega)).1
                        refine g_iload_n rfl ?_
                        refine g_if2_ne (fun c1776 => ?_) (fun c1776 => ?_)
                        · refine g_iconst (by decide) (fun v1777 kv1777 => ?_)
                          refine g_nop ?_
                          refine g_iadd (by omega) (fun v1778 ev1778 => ?_)
                          refine g_istore (l' := [(0, .ref 0), (1, .int a1), (2, .int a2), (3, .int v1745), (4, .int v1778), (5, .int v1750), (6, .int v1768)]) rfl rfl ?_
                          refine g_iinc (l' := (fun v1779 => [(0, .ref 0), (1, .int a1), (2, .int a2), (3, .int v1745), (4, .int v1778), (5, .int v1750), (6, .int v1779)])) rfl rfl (by decide) (by omega) (fun _ => rfl) (fun v1779 ev1779 => ?_)
                          refine g_goto ?_
                          exact ihL1769 v1778 v1779 (by omega) (by omega) (fw_n q6 (by omega) (by show ¬ ((trS (fun q => whM (fM A1764 G1765 (q + 1)).1 (fM A1764 G1765 (q + 1)).2 v1750.toInt.toNat) (hqM A1764) (cnM A1764)).2.1 v1768.toInt.toNat = a1.toInt ∧ (trS (fun q => whM (fM A1764 G1765 (q + 1)).1 (fM A1764 G1765 (q + 1)).2 v1750.toInt.toNat) (hqM A1764) (cnM A1764)).2.1 (v1768.toInt.toNat + 1) = a2.toInt); omega) (by omega)) (by omega) (by omega) (by omega)
                        · refine g_aload_n rfl ?_
                          refine g_gfr hIH1757 sm_0 rfl ?_
                          refine g_iload rfl ?_
                          refine g_iconst (by decide) (fun v1780 kv1780 => ?_)
                          refine g_iadd (by omega) (fun v1781 ev1781 => ?_)
                          refine g_iaload hIH1757 sm_22 rfl (by omega) (fun v1782 ev1782 lv1782 uv1782 => ?_)
                          have yv1782 : v1782.toInt = (trS (fun q => whM (fM A1764 G1765 (q + 1)).1 (fM A1764 G1765 (q + 1)).2 v1750.toInt.toNat) (hqM A1764) (cnM A1764)).2.1 (v1768.toInt.toNat + 1) := by rw [ev1782, show v1781.toInt.toNat = v1768.toInt.toNat + 1 by omega]; exact (taG1765 (v1768.toInt.toNat + 1) (by omega)).1
                          refine g_iload_n rfl ?_
                          refine g_if2_ne (fun c1783 => ?_) (fun c1783 => ?_)
                          · refine g_iconst (by decide) (fun v1784 kv1784 => ?_)
                            refine g_nop ?_
                            refine g_iadd (by omega) (fun v1785 ev1785 => ?_)
                            refine g_istore (l' := [(0, .ref 0), (1, .int a1), (2, .int a2), (3, .int v1745), (4, .int v1785), (5, .int v1750), (6, .int v1768)]) rfl rfl ?_
                            refine g_iinc (l' := (fun v1786 => [(0, .ref 0), (1, .int a1), (2, .int a2), (3, .int v1745), (4, .int v1785), (5, .int v1750), (6, .int v1786)])) rfl rfl (by decide) (by omega) (fun _ => rfl) (fun v1786 ev1786 => ?_)
                            refine g_goto ?_
                            exact ihL1769 v1785 v1786 (by omega) (by omega) (fw_n q6 (by omega) (by show ¬ ((trS (fun q => whM (fM A1764 G1765 (q + 1)).1 (fM A1764 G1765 (q + 1)).2 v1750.toInt.toNat) (hqM A1764) (cnM A1764)).2.1 v1768.toInt.toNat = a1.toInt ∧ (trS (fun q => whM (fM A1764 G1765 (q + 1)).1 (fM A1764 G1765 (q + 1)).2 v1750.toInt.toNat) (hqM A1764) (cnM A1764)).2.1 (v1768.toInt.toNat + 1) = a2.toInt); omega) (by omega)) (by omega) (by omega) (by omega)
                          · refine g_iconst (by decide) (fun v1787 kv1787 => ?_)
                            refine g_goto ?_
                            refine g_iadd (by omega) (fun v1788 ev1788 => ?_)
                            refine g_istore (l' := [(0, .ref 0), (1, .int a1), (2, .int a2), (3, .int v1745), (4, .int v1788), (5, .int v1750), (6, .int v1768)]) rfl rfl ?_
                            refine g_iinc (l' := (fun v1789 => [(0, .ref 0), (1, .int a1), (2, .int a2), (3, .int v1745), (4, .int v1788), (5, .int v1750), (6, .int v1789)])) rfl rfl (by decide) (by omega) (fun _ => rfl) (fun v1789 ev1789 => ?_)
                            refine g_goto ?_
                            exact ihL1769 v1788 v1789 (by omega) (by omega) (fw_y q6 (by omega) (by show ((trS (fun q => whM (fM A1764 G1765 (q + 1)).1 (fM A1764 G1765 (q + 1)).2 v1750.toInt.toNat) (hqM A1764) (cnM A1764)).2.1 v1768.toInt.toNat = a1.toInt ∧ (trS (fun q => whM (fM A1764 G1765 (q + 1)).1 (fM A1764 G1765 (q + 1)).2 v1750.toInt.toNat) (hqM A1764) (cnM A1764)).2.1 (v1768.toInt.toNat + 1) = a2.toInt); omega) (by omega)) (by omega) (by omega) (by omega)
                  exact L1769 _ v1749 v1766 (by omega) (by omega) (fw_0 (by omega) (by omega)) (by omega) (by omega) (Nat.lt_succ_self _)
            exact L1754 _ v1747 v1748 H1570 hIH1570 hJH1570 e1571 m1572 (by omega) (by omega) (smf_0 (by omega) (by omega)) (by omega) (Nat.lt_succ_self _)
          · exfalso; omega
      · refine g_iload_n rfl ?_
        refine g_bipush (by decide) (fun v1790 kv1790 => ?_)
        refine g_if2_eq (fun c1791 => ?_) (fun c1791 => ?_)
        · refine g_iload_n rfl ?_
          refine g_iload_n rfl ?_
          refine g_if2_eq (fun c1792 => ?_) (fun c1792 => ?_)
          · refine g_iconst (by decide) (fun v1793 kv1793 => ?_)
            refine g_nop ?_
            refine g_istore_n (l' := [(0, .ref 0), (1, .int a1), (2, .int a2), (3, .int v1793)]) rfl rfl ?_
            refine g_iload_n rfl ?_
            refine g_if_ne (fun c1794 => ?_) (fun c1794 => ?_)
            · exfalso; omega
            · refine g_iconst (by decide) (fun v1795 kv1795 => ?_)
              exact g_iret ⟨_, rfl, hIH1570, hJH1570, (e1571.symm.trans ek0_2), m1572, (Or.inl ⟨by omega, by omega⟩)⟩
          · exfalso; omega
        · refine g_iload_n rfl ?_
          refine g_bipush (by decide) (fun v1796 kv1796 => ?_)
          refine g_if2_ne (fun c1797 => ?_) (fun c1797 => ?_)
          · refine g_iconst (by decide) (fun v1798 kv1798 => ?_)
            refine g_nop ?_
            refine g_istore_n (l' := [(0, .ref 0), (1, .int a1), (2, .int a2), (3, .int v1798)]) rfl rfl ?_
            refine g_iload_n rfl ?_
            refine g_if_ne (fun c1799 => ?_) (fun c1799 => ?_)
            · exfalso; omega
            · refine g_iconst (by decide) (fun v1800 kv1800 => ?_)
              exact g_iret ⟨_, rfl, hIH1570, hJH1570, (e1571.symm.trans ek0_2), m1572, (Or.inl ⟨by omega, by omega⟩)⟩
          · refine g_nop ?_
            refine g_iload_n rfl ?_
            refine g_iload_n rfl ?_
            refine g_if2_eq (fun c1801 => ?_) (fun c1801 => ?_)
            · exfalso; omega
            · refine g_iconst (by decide) (fun v1802 kv1802 => ?_)
              refine g_goto ?_
              refine g_istore_n (l' := [(0, .ref 0), (1, .int a1), (2, .int a2), (3, .int v1802)]) rfl rfl ?_
              refine g_iload_n rfl ?_
              refine g_if_ne (fun c1803 => ?_) (fun c1803 => ?_)
              · refine g_iconst (by decide) (fun v1804 kv1804 => ?_)
                refine g_istore (l' := [(0, .ref 0), (1, .int a1), (2, .int a2), (3, .int v1802), (4, .int v1804)]) rfl rfl ?_
                refine g_iconst (by decide) (fun v1805 kv1805 => ?_)
                refine g_istore (l' := [(0, .ref 0), (1, .int a1), (2, .int a2), (3, .int v1802), (4, .int v1804), (5, .int v1805)]) rfl rfl ?_
                refine g_nop ?_
                have L1811 : ∀ (N : Nat) (v1806 : Int32) (v1807 : Int32) (H1808 : mzH), gI SM H1808 → JN H1808 → k0_2 = fZ H1808 0 2 → kpM H H1808 → (0 ≤ v1806.toInt ∧ v1806.toInt ≤ 2400) → (0 ≤ v1807.toInt ∧ v1807.toInt ≤ 40) → v1806.toInt = smF w v1807.toInt.toNat → (0 ≤ v1806.toInt ∧ v1806.toInt ≤ 60 * v1807.toInt) → (40 - v1807.toInt).toNat < N → gG 7 zB_218 (mzBlk zB_218 6) [(0, .ref 0), (1, .int a1), (2, .int a2), (3, .int v1802), (4, .int v1806), (5, .int v1807)] [] H1808 0 0 (gRi (fun v H' => gI SM H' ∧ JN H' ∧ fZ H' 0 2 = fZ H 0 2 ∧ kpM H H' ∧ ((v.toInt = -1 ∧ ¬ ((a1.toInt = -3 ∨ (0 ≤ a1.toInt ∧ a1.toInt < (aZ H 2 0).toInt)) ∧ (a2.toInt = -4 ∨ a2.toInt = -3 ∨ (0 ≤ a2.toInt ∧ a2.toInt < (aZ H 2 0).toInt)) ∧ ¬ a1.toInt = a2.toInt)) ∨ (((a1.toInt = -3 ∨ (0 ≤ a1.toInt ∧ a1.toInt < (aZ H 2 0).toInt)) ∧ (a2.toInt = -4 ∨ a2.toInt = -3 ∨ (0 ≤ a2.toInt ∧ a2.toInt < (aZ H 2 0).toInt)) ∧ ¬ a1.toInt = a2.toInt) ∧ v.toInt = smF w 40)))) := by
                  intro N
                  induction N with
                  | zero => intro v1806 v1807 H1808 hIH1808 hJH1808 e1809 m1810 bv1806 bv1807 q1 q2 hmL1811; exact absurd hmL1811 (Nat.not_lt_zero _)
                  | succ N ihL1811 =>
                    intro v1806 v1807 H1808 hIH1808 hJH1808 e1809 m1810 bv1806 bv1807 q1 q2 hmL1811
                    refine g_iload rfl ?_
                    refine g_bipush (by decide) (fun v1812 kv1812 => ?_)
                    refine g_if2_ge (fun c1813 => ?_) (fun c1813 => ?_)
                    · refine g_iload rfl ?_
                      exact g_iret ⟨_, rfl, hIH1808, hJH1808, (e1809.symm.trans ek0_2), m1810, (Or.inr ⟨by omega, by rw [show (40 : Nat) = v1807.toInt.toNat by omega]; exact q1⟩)⟩
                    · refine g_aload_n rfl ?_
                      refine g_iload rfl ?_
                      refine g_invvv hIH1808 sm_0 rfl rfl rfl rfl (r_214 v1807 (by omega) H1808 hIH1808 hJH1808 (fun A t => hp0 A (tk_kp m1810 t))) (fun H1814 r1815 => ?_)
                      obtain ⟨hIH1814, hJH1814, w1816, m1817, p1818⟩ := r1815
                      have e1819 : k0_2 = fZ H1814 0 2 := e1809.trans w1816.symm
                      have m1820 : kpM H H1814 := kpM_t m1810 m1817
                      obtain ⟨A1821, ttA1821, G1822, cG1822, tnG1822, taG1822⟩ := p1818
                      have uA1821 : tkW H A1821 := tk_kp m1810 ttA1821
                      have pwG1822 := hp1 v1807.toInt.toNat (by omega) A1821 uA1821 G1822 cG1822
                      refine g_iconst (by decide) (fun v1823 kv1823 => ?_)
                      refine g_istore (l' := [(0, .ref 0), (1, .int a1), (2, .int a2), (3, .int v1802), (4, .int v1806), (5, .int v1807), (6, .int v1823)]) rfl rfl ?_
                      refine g_nop ?_
                      have L1826 : ∀ (N : Nat) (v1824 : Int32) (v1825 : Int32), (0 ≤ v1824.toInt ∧ v1824.toInt ≤ 2460) → (0 ≤ v1825.toInt ∧ v1825.toInt ≤ 59) → v1824.toInt = v1806.toInt + cnt (fun i => (trS (fun q => whM (fM A1821 G1822 (q + 1)).1 (fM A1821 G1822 (q + 1)).2 v1807.toInt.toNat) (hqM A1821) (cnM A1821)).2.1 i = a1.toInt ∧ (trS (fun q => whM (fM A1821 G1822 (q + 1)).1 (fM A1821 G1822 (q + 1)).2 v1807.toInt.toNat) (hqM A1821) (cnM A1821)).2.1 (i + 1) = a2.toInt) v1825.toInt.toNat → (v1825.toInt = 0 ∨ v1825.toInt + 1 ≤ ((trS (fun q => whM (fM A1821 G1822 (q + 1)).1 (fM A1821 G1822 (q + 1)).2 v1807.toInt.toNat) (hqM A1821) (cnM A1821)).1 : Int)) → (v1806.toInt ≤ v1824.toInt ∧ v1824.toInt ≤ v1806.toInt + v1825.toInt) → (59 - v1825.toInt).toNat < N → gG 7 zB_218 (mzBlk zB_218 7) [(0, .ref 0), (1, .int a1), (2, .int a2), (3, .int v1802), (4, .int v1824), (5, .int v1807), (6, .int v1825)] [] H1814 0 0 (gRi (fun v H' => gI SM H' ∧ JN H' ∧ fZ H' 0 2 = fZ H 0 2 ∧ kpM H H' ∧ ((v.toInt = -1 ∧ ¬ ((a1.toInt = -3 ∨ (0 ≤ a1.toInt ∧ a1.toInt < (aZ H 2 0).toInt)) ∧ (a2.toInt = -4 ∨ a2.toInt = -3 ∨ (0 ≤ a2.toInt ∧ a2.toInt < (aZ H 2 0).toInt)) ∧ ¬ a1.toInt = a2.toInt)) ∨ (((a1.toInt = -3 ∨ (0 ≤ a1.toInt ∧ a1.toInt < (aZ H 2 0).toInt)) ∧ (a2.toInt = -4 ∨ a2.toInt = -3 ∨ (0 ≤ a2.toInt ∧ a2.toInt < (aZ H 2 0).toInt)) ∧ ¬ a1.toInt = a2.toInt) ∧ v.toInt = smF w 40)))) := by
                        intro N
                        induction N with
                        | zero => intro v1824 v1825 bv1824 bv1825 q6 q7 q8 hmL1826; exact absurd hmL1826 (Nat.not_lt_zero _)
                        | succ N ihL1826 =>
                          intro v1824 v1825 bv1824 bv1825 q6 q7 q8 hmL1826
                          refine g_iload rfl ?_
                          refine g_iconst (by decide) (fun v1827 kv1827 => ?_)
                          refine g_iadd (by omega) (fun v1828 ev1828 => ?_)
                          refine g_aload_n rfl ?_
                          refine g_gfi hIH1814 sm_0 rfl (fun v1829 ev1829 lv1829 uv1829 => ?_)
                          have zv1829 : v1829.toInt = (fZ H1814 0 39).toInt := by rw [ev1829]
                          have ztv1829 : v1829.toInt = ((trS (fun q => whM (fM A1821 G1822 (q + 1)).1 (fM A1821 G1822 (q + 1)).2 v1807.toInt.toNat) (hqM A1821) (cnM A1821)).1 : Int) := by rw [zv1829]; exact tnG1822
                          refine g_if2_ge (fun c1830 => ?_) (fun c1830 => ?_)
                          · refine g_iinc (l' := (fun v1831 => [(0, .ref 0), (1, .int a1), (2, .int a2), (3, .int v1802), (4, .int v1824), (5, .int v1831), (6, .int v1825)])) rfl rfl (by decide) (by omega) (fun _ => rfl) (fun v1831 ev1831 => ?_)
                            refine g_goto ?_
                            refine gG_pick [0, 1, 2, 3, 4, 5] (l' := [(0, .ref 0), (1, .int a1), (2, .int a2), (3, .int v1802), (4, .int v1824), (5, .int v1831)]) rfl ?_
                            exact ihL1811 v1824 v1831 H1814 hIH1814 (JM_n hJH1814) e1819 m1820 (by omega) (by omega) (sm_s q1 (by omega) (fl_e q6 pwG1822 (by omega))) (by omega) (by omega)
                          · refine g_iload rfl ?_
                            refine g_aload_n rfl ?_
                            refine g_gfr hIH1814 sm_0 rfl ?_
                            refine g_iload rfl ?_
                            refine g_iaload hIH1814 sm_22 rfl (by omega) (fun v1832 ev1832 lv1832 uv1832 => ?_)
                            have yv1832 : v1832.toInt = (trS (fun q => whM (fM A1821 G1822 (q + 1)).1 (fM A1821 G1822 (q + 1)).2 v1807.toInt.toNat) (hqM A1821) (cnM A1821)).2.1 v1825.toInt.toNat := by rw [ev1832]; exact (taG1822 v1825.toInt.toNat (by omega)).1
                            refine g_iload_n rfl ?_
                            refine g_if2_ne (fun c1833 => ?_) (fun c1833 => ?_)
                            · refine g_iconst (by decide) (fun v1834 kv1834 => ?_)
                              refine g_nop ?_
                              refine g_iadd (by omega) (fun v1835 ev1835 => ?_)
                              refine g_istore (l' := [(0, .ref 0), (1, .int a1), (2, .int a2), (3, .int v1802), (4, .int v1835), (5, .int v1807), (6, .int v1825)]) rfl rfl ?_
                              refine g_iinc (l' := (fun v1836 => [(0, .ref 0), (1, .int a1), (2, .int a2), (3, .int v1802), (4, .int v1835), (5, .int v1807), (6, .int v1836)])) rfl rfl (by decide) (by omega) (fun _ => rfl) (fun v1836 ev1836 => ?_)
                              refine g_goto ?_
                              exact ihL1826 v1835 v1836 (by omega) (by omega) (fw_n q6 (by omega) (by show ¬ ((trS (fun q => whM (fM A1821 G1822 (q + 1)).1 (fM A1821 G1822 (q + 1)).2 v1807.toInt.toNat) (hqM A1821) (cnM A1821)).2.1 v1825.toInt.toNat = a1.toInt ∧ (trS (fun q => whM (fM A1821 G1822 (q + 1)).1 (fM A1821 G1822 (q + 1)).2 v1807.toInt.toNat) (hqM A1821) (cnM A1821)).2.1 (v1825.toInt.toNat + 1) = a2.toInt); omega) (by omega)) (by omega) (by omega) (by omega)
                            · refine g_aload_n rfl ?_
                              refine g_gfr hIH1814 sm_0 rfl ?_
                              refine g_iload rfl ?_
                              refine g_iconst (by decide) (fun v1837 kv1837 => ?_)
                              refine g_iadd (by omega) (fun v1838 ev1838 => ?_)
                              refine g_iaload hIH1814 sm_22 rfl (by omega) (fun v1839 ev1839 lv1839 uv1839 => ?_)
                              have yv1839 : v1839.toInt = (trS (fun q => whM (fM A1821 G1822 (q + 1)).1 (fM A1821 G1822 (q + 1)).2 v1807.toInt.toNat) (hqM A1821) (cnM A1821)).2.1 (v1825.toInt.toNat + 1) := by rw [ev1839, show v1838.toInt.toNat = v1825.toInt.toNat + 1 by omega]; exact (taG1822 (v1825.toInt.toNat + 1) (by omega)).1
                              refine g_iload_n rfl ?_
                              refine g_if2_ne (fun c1840 => ?_) (fun c1840 => ?_)
                              · refine g_iconst (by decide) (fun v1841 kv1841 => ?_)
                                refine g_nop ?_
                                refine g_iadd (by omega) (fun v1842 ev1842 => ?_)
                                refine g_istore (l' := [(0, .ref 0), (1, .int a1), (2, .int a2), (3, .int v1802), (4, .int v1842), (5, .int v1807), (6, .int v1825)]) rfl rfl ?_
                                refine g_iinc (l' := (fun v1843 => [(0, .ref 0), (1, .int a1), (2, .int a2), (3, .int v1802), (4, .int v1842), (5, .int v1807), (6, .int v1843)])) rfl rfl (by decide) (by omega) (fun _ => rfl) (fun v1843 ev1843 => ?_)
                                refine g_goto ?_
                                exact ihL1826 v1842 v1843 (by omega) (by omega) (fw_n q6 (by omega) (by show ¬ ((trS (fun q => whM (fM A1821 G1822 (q + 1)).1 (fM A1821 G1822 (q + 1)).2 v1807.toInt.toNat) (hqM A1821) (cnM A1821)).2.1 v1825.toInt.toNat = a1.toInt ∧ (trS (fun q => whM (fM A1821 G1822 (q + 1)).1 (fM A1821 G1822 (q + 1)).2 v1807.toInt.toNat) (hqM A1821) (cnM A1821)).2.1 (v1825.toInt.toNat + 1) = a2.toInt); omega) (by omega)) (by omega) (by omega) (by omega)
                              · refine g_iconst (by decide) (fun v1844 kv1844 => ?_)
                                refine g_goto ?_
                                refine g_iadd (by omega) (fun v1845 ev1845 => ?_)
                                refine g_istore (l' := [(0, .ref 0), (1, .int a1), (2, .int a2), (3, .int v1802), (4, .int v1845), (5, .int v1807), (6, .int v1825)]) rfl rfl ?_
                                refine g_iinc (l' := (fun v1846 => [(0, .ref 0), (1, .int a1), (2, .int a2), (3, .int v1802), (4, .int v1845), (5, .int v1807), (6, .int v1846)])) rfl rfl (by decide) (by omega) (fun _ => rfl) (fun v1846 ev1846 => ?_)
                                refine g_goto ?_
                                exact ihL1826 v1845 v1846 (by omega) (by omega) (fw_y q6 (by omega) (by show ((trS (fun q => whM (fM A1821 G1822 (q + 1)).1 (fM A1821 G1822 (q + 1)).2 v1807.toInt.toNat) (hqM A1821) (cnM A1821)).2.1 v1825.toInt.toNat = a1.toInt ∧ (trS (fun q => whM (fM A1821 G1822 (q + 1)).1 (fM A1821 G1822 (q + 1)).2 v1807.toInt.toNat) (hqM A1821) (cnM A1821)).2.1 (v1825.toInt.toNat + 1) = a2.toInt); omega) (by omega)) (by omega) (by omega) (by omega)
                      exact L1826 _ v1806 v1823 (by omega) (by omega) (fw_0 (by omega) (by omega)) (by omega) (by omega) (Nat.lt_succ_self _)
                exact L1811 _ v1804 v1805 H1570 hIH1570 hJH1570 e1571 m1572 (by omega) (by omega) (smf_0 (by omega) (by omega)) (by omega) (Nat.lt_succ_self _)
              · exfalso; omega
