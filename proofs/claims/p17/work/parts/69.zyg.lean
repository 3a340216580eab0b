/-! THE REFERENCE RUNS SOME -/
theorem sb_kp {H B A : mzH} {P : Nat → Prop} (k : kpM H B) (h : ∀ q : Nat, (q : Int) < (aZ B 2 2).toInt → (inM A q ≠ 0 ↔ P q) ∧ hoM A q = (aZ B 2 (69 + 5 * q)).toInt) : ∀ q : Nat, (q : Int) < (aZ H 2 2).toInt → (inM A q ≠ 0 ↔ P q) ∧ hoM A q = (aZ H 2 (69 + 5 * q)).toInt := fun q hq => by
  have z := h q (by rw [k.1 2 (by decide)]; exact hq)
  rw [k.1 2 (by decide)] at z
  exact z
theorem sb_wo {H A : mzH} {a b : Int} (e : b = -1) (h : ∀ q : Nat, (q : Int) < (aZ H 2 2).toInt → (inM A q ≠ 0 ↔ (¬ (q : Int) = a ∧ ¬ (q : Int) = b)) ∧ hoM A q = (aZ H 2 (69 + 5 * q)).toInt) : ∀ q : Nat, (q : Int) < (aZ H 2 2).toInt → (inM A q ≠ 0 ↔ ¬ (q : Int) = a) ∧ hoM A q = (aZ H 2 (69 + 5 * q)).toInt := fun q hq => by
  obtain ⟨z1, z2⟩ := h q hq
  refine ⟨?_, z2⟩
  rw [z1]
  exact ⟨fun y => y.1, fun y => ⟨y, by omega⟩⟩
theorem in_sA {B C : mzH} {m v : Int32} (hB : gI SM B) (e : C = sA B 17 m.toInt.toNat v) (hm : 0 ≤ m.toInt ∧ m.toInt ≤ 59) (hv : v.toInt = 0) (q : Nat) : inM C q = if (q : Int) = m.toInt then 0 else inM B q := by
  show (aZ C 17 q).toInt = _
  if c : (q : Int) = m.toInt then rw [if_pos c, e, show q = m.toInt.toNat by omega, aZ_sA_eq hB sm_17 (by omega), hv]
  else
    rw [if_neg c, e, aZ_sA_ne (by omega)]
    rfl
theorem wi_0 {H A : mzH} {a b : Int} {q : Nat} (t : tkW H A) (hq : (q : Int) < (aZ H 2 2).toInt) (ha : a < 0) (hb : b < 0) : inM A q ≠ 0 ↔ (¬ (q : Int) = a ∧ ¬ (q : Int) = b) := by
  rw [show inM A q = 1 from (t.2.2 q hq).2]
  exact ⟨fun _ => by omega, fun _ => by decide⟩
theorem wi_1 {H A C : mzH} {a b : Int} {m v : Int32} {q : Nat} (t : tkW H A) (hq : (q : Int) < (aZ H 2 2).toInt) (hB : gI SM A) (e : C = sA A 17 m.toInt.toNat v) (hm : 0 ≤ m.toInt ∧ m.toInt ≤ 59) (hv : v.toInt = 0) (h : (a = m.toInt ∧ b < 0) ∨ (b = m.toInt ∧ a < 0)) : inM C q ≠ 0 ↔ (¬ (q : Int) = a ∧ ¬ (q : Int) = b) := by
  rw [in_sA hB e hm hv q, show inM A q = 1 from (t.2.2 q hq).2]
  split
  · exact ⟨fun z => absurd rfl z, fun z => by omega⟩
  · exact ⟨fun _ => by omega, fun _ => by decide⟩
theorem wi_2 {H A B C : mzH} {m m2 v v2 : Int32} {q : Nat} (t : tkW H A) (hq : (q : Int) < (aZ H 2 2).toInt) (hA : gI SM A) (hB : gI SM B) (e : B = sA A 17 m.toInt.toNat v) (e2 : C = sA B 17 m2.toInt.toNat v2) (hm : 0 ≤ m.toInt ∧ m.toInt ≤ 59) (hm2 : 0 ≤ m2.toInt ∧ m2.toInt ≤ 59) (hv : v.toInt = 0) (hv2 : v2.toInt = 0) : inM C q ≠ 0 ↔ (¬ (q : Int) = m.toInt ∧ ¬ (q : Int) = m2.toInt) := by
  rw [in_sA hB e2 hm2 hv2 q, in_sA hA e hm hv q, show inM A q = 1 from (t.2.2 q hq).2]
  split
  · exact ⟨fun z => absurd rfl z, fun z => by omega⟩
  · split
    · exact ⟨fun z => absurd rfl z, fun z => by omega⟩
    · exact ⟨fun _ => by omega, fun _ => by decide⟩
theorem hr_kp {H B : mzH} (k : kpM H B) (h : ∀ k : Nat, (k : Int) < (aZ H 2 2).toInt → 0 ≤ (aZ H 2 (69 + 5 * k)).toInt ∧ (aZ H 2 (69 + 5 * k)).toInt ≤ 999) : ∀ k : Nat, (k : Int) < (aZ B 2 2).toInt → 0 ≤ (aZ B 2 (69 + 5 * k)).toInt ∧ (aZ B 2 (69 + 5 * k)).toInt ≤ 999 := fun q hq => by
  rw [k.1 2 (by decide)] at hq ⊢
  exact h q hq
set_option maxRecDepth 4000 in
set_option maxHeartbeats 4000000 in
/-- M.runsWithout -/
theorem r_222 (a1 : Int32) (ha1 : -1 ≤ a1.toInt ∧ a1.toInt ≤ 59) (a2 : Int32) (ha2 : -1 ≤ a2.toInt ∧ a2.toInt ≤ 59) (H : mzH) (hI : gI SM H) (hJ : JN H) (hp0 : ((∀ A, tkQ H A → gdM A))) (hp1 : (∀ k : Nat, (k : Int) < (aZ H 2 2).toInt → 0 ≤ (aZ H 2 (69 + 5 * k)).toInt ∧ (aZ H 2 (69 + 5 * k)).toInt ≤ 999)) : gCall 222 [.ref 0, .int a1, .int a2] H (gRv (fun H' => gI SM H' ∧ JM H' ∧ fZ H' 0 2 = fZ H 0 2 ∧ fZ H' 0 0 = fZ H 0 0 ∧ fZ H' 0 41 = fZ H 0 41 ∧ fZ H' 0 42 = fZ H 0 42 ∧ fZ H' 0 43 = fZ H 0 43 ∧ kpM H H' ∧ (∃ A : mzH, tkQ H A ∧ (∀ q : Nat, (q : Int) < (aZ H 2 2).toInt → (inM A q ≠ 0 ↔ (¬ (q : Int) = a1.toInt ∧ ¬ (q : Int) = a2.toInt)) ∧ hoM A q = (aZ H 2 (69 + 5 * q)).toInt) ∧ ∃ G : mzH, clR (rgM G) (mdM G) ∧ rwX H' (fM A G (cnM A)).1 (fM A G (cnM A)).2 ∧ (∀ x : Nat, x < cnM A → (aZ H' 20 (odM A x)).toInt = rvM A G x) ∧ odI H' A (aZ A 2 2).toInt.toNat))) := by
  obtain ⟨k0_2, ek0_2⟩ : ∃ z, z = fZ H 0 2 := ⟨_, rfl⟩
  have ik0_2 : k0_2.toInt = (fZ H 0 2).toInt := by rw [← ek0_2]
  have bk0_2 : 0 ≤ k0_2.toInt ∧ k0_2.toInt ≤ 900 := by rw [ek0_2]; exact fZ_of hI sm_0 rfl
  obtain ⟨k0_0, ek0_0⟩ : ∃ z, z = fZ H 0 0 := ⟨_, rfl⟩
  have ik0_0 : k0_0.toInt = (fZ H 0 0).toInt := by rw [← ek0_0]
  obtain ⟨k0_41, ek0_41⟩ : ∃ z, z = fZ H 0 41 := ⟨_, rfl⟩
  have ik0_41 : k0_41.toInt = (fZ H 0 41).toInt := by rw [← ek0_41]
  obtain ⟨k0_42, ek0_42⟩ : ∃ z, z = fZ H 0 42 := ⟨_, rfl⟩
  have ik0_42 : k0_42.toInt = (fZ H 0 42).toInt := by rw [← ek0_42]
  obtain ⟨k0_43, ek0_43⟩ : ∃ z, z = fZ H 0 43 := ⟨_, rfl⟩
  have ik0_43 : k0_43.toInt = (fZ H 0 43).toInt := by rw [← ek0_43]
  have mkfr : kpM H H := kpM_r
  refine gG_call [(0, .ref 0), (1, .int a1), (2, .int a2)] ⟨rfl, rfl, rfl, trivial⟩ ?_
  show gG 3 zB_222 (mzBlk zB_222 0) [(0, .ref 0), (1, .int a1), (2, .int a2)] [] H 0 0 _
  refine g_aload_n rfl ?_
  refine g_invvv hI sm_0 rfl rfl rfl rfl (r_182 H hI hJ) (fun H577 r578 => ?_)
  obtain ⟨hIH577, hJH577, m579, m580, m581, m582, p583, p584⟩ := r578
  have e585 : k0_2 = fZ H577 0 2 := ek0_2.trans (m579 0 2).symm
  have e586 : k0_0 = fZ H577 0 0 := ek0_0.trans (m579 0 0).symm
  have e587 : k0_41 = fZ H577 0 41 := ek0_41.trans (m579 0 41).symm
  have e588 : k0_42 = fZ H577 0 42 := ek0_42.trans (m579 0 42).symm
  have e589 : k0_43 = fZ H577 0 43 := ek0_43.trans (m579 0 43).symm
  have m590 : kpM H H577 := kpM_t mkfr m581
  have tH577 : tkW H H577 := tk_kp mkfr ⟨m581, m580, p584⟩
  refine g_iload_n rfl ?_
  refine g_iconst (by decide) (fun v591 kv591 => ?_)
  refine g_if2_eq (fun c592 => ?_) (fun c592 => ?_)
  · refine g_iload_n rfl ?_
    refine g_iconst (by decide) (fun v593 kv593 => ?_)
    refine g_if2_eq (fun c594 => ?_) (fun c594 => ?_)
    · have tqH577 : tkQ H H577 := ⟨m590, fun i => m590.1 2 (by decide) i, fun q hq => by show 0 ≤ (aZ H577 18 q).toInt ∧ _; unfold hoM; rw [show aZ H577 18 q = aZ H577 18 q from (fun _ => rfl) q, (tH577.2.2 q hq).1]; exact hp1 q hq⟩
      refine g_aload_n rfl ?_
      refine g_sipush (by decide) (fun v595 kv595 => ?_)
      refine g_invvv hIH577 sm_0 rfl rfl rfl rfl (r_198 v595 H577 hIH577 hJH577 (hp0 H577 tqH577)) (fun H596 r597 => ?_)
      obtain ⟨hIH596, hJH596, w598, w599, w600, w601, w602, m603, m604, m605, m606, m607, p608, p609⟩ := r597
      have e610 : k0_2 = fZ H596 0 2 := e585.trans w598.symm
      have e611 : k0_0 = fZ H596 0 0 := e586.trans w599.symm
      have e612 : k0_41 = fZ H596 0 41 := e587.trans w600.symm
      have e613 : k0_42 = fZ H596 0 42 := e588.trans w601.symm
      have e614 : k0_43 = fZ H596 0 43 := e589.trans w602.symm
      have m615 : kpM H H596 := kpM_t m590 m605
      have xm616 : (∀ i, aZ H596 18 i = aZ H577 18 i) := fun i => (m606 i : aZ H596 18 i = aZ H577 18 i).trans ((fun _ => rfl) i)
      have xm617 : (∀ i, aZ H596 17 i = aZ H577 17 i) := fun i => (m604 i : aZ H596 17 i = aZ H577 17 i).trans ((fun _ => rfl) i)
      obtain ⟨G618, clG618, p619, wdp619, stp619, wyp619, oip619⟩ := p609
      rw [kv595] at stp619
      obtain rfl := st_all (hp0 H577 tqH577) stp619
      exact g_ret ⟨rfl, hIH596, hJH596, (e610.symm.trans ek0_2), (e611.symm.trans ek0_0), (e612.symm.trans ek0_41), (e613.symm.trans ek0_42), (e614.symm.trans ek0_43), m615, ⟨H577, tqH577, (fun q hq => ⟨wi_0 tH577 hq (by omega) (by omega), by show (aZ H577 18 q).toInt = _; rw [show aZ H577 18 q = aZ H577 18 q from (fun _ => rfl) q, (tH577.2.2 q hq).1]⟩), G618, clG618, wdp619, wyp619, oip619⟩⟩
    · refine g_aload_n rfl ?_
      refine g_gfr hIH577 sm_0 rfl ?_
      refine g_iload_n rfl ?_
      refine g_iconst (by decide) (fun v620 kv620 => ?_)
      refine g_zastore hIH577 sm_17 (by omega) (by omega) (fun H621 eH621 hIH621 => ?_)
      have hJH621 : JN H621 := JN_sA (by decide) eH621 hJH577
      have e622 : k0_2 = fZ H621 0 2 := by rw [eH621, fZ_sA]; exact e585
      have e623 : k0_0 = fZ H621 0 0 := by rw [eH621, fZ_sA]; exact e586
      have e624 : k0_41 = fZ H621 0 41 := by rw [eH621, fZ_sA]; exact e587
      have e625 : k0_42 = fZ H621 0 42 := by rw [eH621, fZ_sA]; exact e588
      have e626 : k0_43 = fZ H621 0 43 := by rw [eH621, fZ_sA]; exact e589
      have m627 : kpM H H621 := kpM_A m590 eH621 (by omega)
      have xm628 : (∀ i, aZ H621 18 i = aZ H577 18 i) := fun i => (by rw [eH621, aZ_sA_nc (by decide)] : aZ H621 18 i = aZ H577 18 i).trans ((fun _ => rfl) i)
      refine g_nop ?_
      have tqH621 : tkQ H H621 := ⟨m627, fun i => m627.1 2 (by decide) i, fun q hq => by show 0 ≤ (aZ H621 18 q).toInt ∧ _; unfold hoM; rw [show aZ H621 18 q = aZ H577 18 q from xm628 q, (tH577.2.2 q hq).1]; exact hp1 q hq⟩
      refine g_aload_n rfl ?_
      refine g_sipush (by decide) (fun v629 kv629 => ?_)
      refine g_invvv hIH621 sm_0 rfl rfl rfl rfl (r_198 v629 H621 hIH621 hJH621 (hp0 H621 tqH621)) (fun H630 r631 => ?_)
      obtain ⟨hIH630, hJH630, w632, w633, w634, w635, w636, m637, m638, m639, m640, m641, p642, p643⟩ := r631
      have e644 : k0_2 = fZ H630 0 2 := e622.trans w632.symm
      have e645 : k0_0 = fZ H630 0 0 := e623.trans w633.symm
      have e646 : k0_41 = fZ H630 0 41 := e624.trans w634.symm
      have e647 : k0_42 = fZ H630 0 42 := e625.trans w635.symm
      have e648 : k0_43 = fZ H630 0 43 := e626.trans w636.symm
      have m649 : kpM H H630 := kpM_t m627 m639
      have xm650 : (∀ i, aZ H630 18 i = aZ H577 18 i) := fun i => (m640 i : aZ H630 18 i = aZ H621 18 i).trans (xm628 i)
      obtain ⟨G651, clG651, p652, wdp652, stp652, wyp652, oip652⟩ := p643
      rw [kv629] at stp652
      obtain rfl := st_all (hp0 H621 tqH621) stp652
      exact g_ret ⟨rfl, hIH630, hJH630, (e644.symm.trans ek0_2), (e645.symm.trans ek0_0), (e646.symm.trans ek0_41), (e647.symm.trans ek0_42), (e648.symm.trans ek0_43), m649, ⟨H621, tqH621, (fun q hq => ⟨wi_1 tH577 hq hIH577 eH621 (by omega) kv620 (by omega), by show (aZ H621 18 q).toInt = _; rw [show aZ H621 18 q = aZ H577 18 q from xm628 q, (tH577.2.2 q hq).1]⟩), G651, clG651, wdp652, wyp652, oip652⟩⟩
  · refine g_aload_n rfl ?_
    refine g_gfr hIH577 sm_0 rfl ?_
    refine g_iload_n rfl ?_
    refine g_iconst (by decide) (fun v653 kv653 => ?_)
    refine g_zastore hIH577 sm_17 (by omega) (by omega) (fun H654 eH654 hIH654 => ?_)
    have hJH654 : JN H654 := JN_sA (by decide) eH654 hJH577
    have e655 : k0_2 = fZ H654 0 2 := by rw [eH654, fZ_sA]; exact e585
    have e656 : k0_0 = fZ H654 0 0 := by rw [eH654, fZ_sA]; exact e586
    have e657 : k0_41 = fZ H654 0 41 := by rw [eH654, fZ_sA]; exact e587
    have e658 : k0_42 = fZ H654 0 42 := by rw [eH654, fZ_sA]; exact e588
    have e659 : k0_43 = fZ H654 0 43 := by rw [eH654, fZ_sA]; exact e589
    have m660 : kpM H H654 := kpM_A m590 eH654 (by omega)
    have xm661 : (∀ i, aZ H654 18 i = aZ H577 18 i) := fun i => (by rw [eH654, aZ_sA_nc (by decide)] : aZ H654 18 i = aZ H577 18 i).trans ((fun _ => rfl) i)
    refine g_nop ?_
    refine g_iload_n rfl ?_
    refine g_iconst (by decide) (fun v662 kv662 => ?_)
    refine g_if2_eq (fun c663 => ?_) (fun c663 => ?_)
    · have tqH654 : tkQ H H654 := ⟨m660, fun i => m660.1 2 (by decide) i, fun q hq => by show 0 ≤ (aZ H654 18 q).toInt ∧ _; unfold hoM; rw [show aZ H654 18 q = aZ H577 18 q from xm661 q, (tH577.2.2 q hq).1]; exact hp1 q hq⟩
      refine g_aload_n rfl ?_
      refine g_sipush (by decide) (fun v664 kv664 => ?_)
      refine g_invvv hIH654 sm_0 rfl rfl rfl rfl (r_198 v664 H654 hIH654 hJH654 (hp0 H654 tqH654)) (fun H665 r666 => ?_)
      obtain ⟨hIH665, hJH665, w667, w668, w669, w670, w671, m672, m673, m674, m675, m676, p677, p678⟩ := r666
      have e679 : k0_2 = fZ H665 0 2 := e655.trans w667.symm
      have e680 : k0_0 = fZ H665 0 0 := e656.trans w668.symm
      have e681 : k0_41 = fZ H665 0 41 := e657.trans w669.symm
      have e682 : k0_42 = fZ H665 0 42 := e658.trans w670.symm
      have e683 : k0_43 = fZ H665 0 43 := e659.trans w671.symm
      have m684 : kpM H H665 := kpM_t m660 m674
      have xm685 : (∀ i, aZ H665 18 i = aZ H577 18 i) := fun i => (m675 i : aZ H665 18 i = aZ H654 18 i).trans (xm661 i)
      obtain ⟨G686, clG686, p687, wdp687, stp687, wyp687, oip687⟩ := p678
      rw [kv664] at stp687
      obtain rfl := st_all (hp0 H654 tqH654) stp687
      exact g_ret ⟨rfl, hIH665, hJH665, (e679.symm.trans ek0_2), (e680.symm.trans ek0_0), (e681.symm.trans ek0_41), (e682.symm.trans ek0_42), (e683.symm.trans ek0_43), m684, ⟨H654, tqH654, (fun q hq => ⟨wi_1 tH577 hq hIH577 eH654 (by omega) kv653 (by omega), by show (aZ H654 18 q).toInt = _; rw [show aZ H654 18 q = aZ H577 18 q from xm661 q, (tH577.2.2 q hq).1]⟩), G686, clG686, wdp687, wyp687, oip687⟩⟩
    · refine g_aload_n rfl ?_
      refine g_gfr hIH654 sm_0 rfl ?_
      refine g_iload_n rfl ?_
      refine g_iconst (by decide) (fun v688 kv688 => ?_)
      refine g_zastore hIH654 sm_17 (by omega) (by omega) (fun H689 eH689 hIH689 => ?_)
      have hJH689 : JN H689 := JN_sA (by decide) eH689 hJH654
      have e690 : k0_2 = fZ H689 0 2 := by rw [eH689, fZ_sA]; exact e655
      have e691 : k0_0 = fZ H689 0 0 := by rw [eH689, fZ_sA]; exact e656
      have e692 : k0_41 = fZ H689 0 41 := by rw [eH689, fZ_sA]; exact e657
      have e693 : k0_42 = fZ H689 0 42 := by rw [eH689, fZ_sA]; exact e658
      have e694 : k0_43 = fZ H689 0 43 := by rw [eH689, fZ_sA]; exact e659
      have m695 : kpM H H689 := kpM_A m660 eH689 (by omega)
      have xm696 : (∀ i, aZ H689 18 i = aZ H577 18 i) := fun i => (by rw [eH689, aZ_sA_nc (by decide)] : aZ H689 18 i = aZ H654 18 i).trans (xm661 i)
      refine g_nop ?_
      have tqH689 : tkQ H H689 := ⟨m695, fun i => m695.1 2 (by decide) i, fun q hq => by show 0 ≤ (aZ H689 18 q).toInt ∧ _; unfold hoM; rw [show aZ H689 18 q = aZ H577 18 q from xm696 q, (tH577.2.2 q hq).1]; exact hp1 q hq⟩
      refine g_aload_n rfl ?_
      refine g_sipush (by decide) (fun v697 kv697 => ?_)
      refine g_invvv hIH689 sm_0 rfl rfl rfl rfl (r_198 v697 H689 hIH689 hJH689 (hp0 H689 tqH689)) (fun H698 r699 => ?_)
      obtain ⟨hIH698, hJH698, w700, w701, w702, w703, w704, m705, m706, m707, m708, m709, p710, p711⟩ := r699
      have e712 : k0_2 = fZ H698 0 2 := e690.trans w700.symm
      have e713 : k0_0 = fZ H698 0 0 := e691.trans w701.symm
      have e714 : k0_41 = fZ H698 0 41 := e692.trans w702.symm
      have e715 : k0_42 = fZ H698 0 42 := e693.trans w703.symm
      have e716 : k0_43 = fZ H698 0 43 := e694.trans w704.symm
      have m717 : kpM H H698 := kpM_t m695 m707
      have xm718 : (∀ i, aZ H698 18 i = aZ H577 18 i) := fun i => (m708 i : aZ H698 18 i = aZ H689 18 i).trans (xm696 i)
      obtain ⟨G719, clG719, p720, wdp720, stp720, wyp720, oip720⟩ := p711
      rw [kv697] at stp720
      obtain rfl := st_all (hp0 H689 tqH689) stp720
      exact g_ret ⟨rfl, hIH698, hJH698, (e712.symm.trans ek0_2), (e713.symm.trans ek0_0), (e714.symm.trans ek0_41), (e715.symm.trans ek0_42), (e716.symm.trans ek0_43), m717, ⟨H689, tqH689, (fun q hq => ⟨wi_2 tH577 hq hIH577 hIH654 eH654 eH689 (by omega) (by omega) kv653 kv688, by show (aZ H689 18 q).toInt = _; rw [show aZ H689 18 q = aZ H577 18 q from xm696 q, (tH577.2.2 q hq).1]⟩), G719, clG719, wdp720, wyp720, oip720⟩⟩
