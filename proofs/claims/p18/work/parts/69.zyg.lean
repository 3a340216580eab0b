/-! THE REFERENCE RUNS SOME -/
theorem sb_kp {H B A : mzH} {P : Nat → Prop} (k : kpM H B) (h : ∀ q : Nat, (q : Int) < (aZ B 2 2).toInt → (inM A q ≠ 0 ↔ P q) ∧ hoM A q = (aZ B 2 (69 + 5 * q)).toInt) : ∀ q : Nat, (q : Int) < (aZ H 2 2).toInt → (inM A q ≠ 0 ↔ P q) ∧ hoM A q = (aZ H 2 (69 + 5 * q)).toInt := fun q hq => by
  have z := h q (by rw [k.1 2 (by decide)]; exact hq)
  rw [k.1 2 (by decide)] at z
  exact z
theorem in_sA {B C : mzH} {m v : Int32} (hB : gI SM B) (e : C = sA B 17 m.toInt.toNat v) (hm : 0 ≤ m.toInt ∧ m.toInt ≤ 59) (hv : v.toInt = 0) (q : Nat) : inM C q = if (q : Int) = m.toInt then 0 else inM B q := by
  show (aZ C 17 q).toInt = _
  if c : (q : Int) = m.toInt then rw [if_pos c, e, show q = m.toInt.toNat by omega, aZ_sA_eq hB sm_17 (by omega), hv]
  else
    rw [if_neg c, e, aZ_sA_ne (by omega)]
    rfl
theorem wi_0 {H A : mzH} {a b : Int} {q : Nat} (t : tkW H A) (hq : (q : Int) < (aZ H 2 2).toInt) (ha : a < 0) (hb : b < 0) : inM A q ≠ 0 ↔ (¬ (q : Int) = a ∧ ¬ (q : Int) = b) := by
  rw [show inM A q = 1 from (t.2.2 q hq).2]
  exact ⟨fun _ => by omega, fun _ => by decide⟩
theorem wi_1 {H A C : mzH} {a b : Int} {m v : Int32} {q : Nat} (t : tkW H A) (hq : (q : Int) < (aZ H 2 2).toInt) (hB : gI SM A) (e : C = sA A 17 m.toInt.toNat v) (hm : 0 ≤ m.toInt ∧ m.toInt ≤ 59) (hv : v.toInt = 0) (h : (a = m.toInt ∧ b < 0) ∨ (b = m.toInt ∧ a < 0)) : inM C q ≠ 0 ↔ (¬ (q : Int) = a ∧ ¬ (q : Int) = b) := by
  rw [in_sA hB e hm hv q, show inM A q = 1 from (t.2.2 q hq).2]
  split
  · exact ⟨fun z => absurd rfl z, fun z => by omega⟩
  · exact ⟨fun _ => by omega, fun _ => by decide⟩
theorem wi_2 {H A B C : mzH} {m m2 v v2 : Int32} {q : Nat} (t : tkW H A) (hq : (q : Int) < (aZ H 2 2).toInt) (hA : gI SM A) (hB : gI SM B) (e : B = sA A 17 m.toInt.toNat v) (e2 : C = sA B 17 m2.toInt.toNat v2) (hm : 0 ≤ m.toInt ∧ m.toInt ≤ 59) (hm2 : 0 ≤ m2.toInt ∧ m2.toInt ≤ 59) (hv : v.toInt = 0) (hv2 : v2.toInt = 0) : inM C q ≠ 0 ↔ (¬ (q : Int) = m.toInt ∧ ¬ (q : Int) = m2.toInt) := by
  rw [in_sA hB e2 hm2 hv2 q, in_sA hA e hm hv q, show inM A q = 1 from (t.2.2 q hq).2]
  split
  · exact ⟨fun z => absurd rfl z, fun z => by omega⟩
  · split
    · exact ⟨fun z => absurd rfl z, fun z => by omega⟩
    · exact ⟨fun _ => by omega, fun _ => by decide⟩
theorem hr_kp {H B : mzH} (k : kpM H B) (h : ∀ k : Nat, (k : Int) < (aZ H 2 2).toInt → 0 ≤ (aZ H 2 (69 + 5 * k)).toInt ∧ (aZ H 2 (69 + 5 * k)).toInt ≤ 999) : ∀ k : Nat, (k : Int) < (aZ B 2 2).toInt → 0 ≤ (aZ B 2 (69 + 5 * k)).toInt ∧ (aZ B 2 (69 + 5 * k)).toInt ≤ 999 := fun q hq => by
  rw [k.1 2 (by decide)] at hq ⊢
  exact h q hq
set_option maxRecDepth 4000 in
set_option maxHeartbeats 4000000 in
/-- M.runsWithout -/
theorem r_222 (a1 : Int32) (ha1 : -1 ≤ a1.toInt ∧ a1.toInt ≤ 59) (a2 : Int32) (ha2 : -1 ≤ a2.toInt ∧ a2.toInt ≤ 59) (H : mzH) (hI : gI SM H) (hJ : JN H) (hp0 : ((∀ A, tkQ H A → gdM A))) (hp1 : (∀ k : Nat, (k : Int) < (aZ H 2 2).toInt → 0 ≤ (aZ H 2 (69 + 5 * k)).toInt ∧ (aZ H 2 (69 + 5 * k)).toInt ≤ 999)) : gCall 222 [.ref 0, .int a1, .int a2] H (gRv (fun H' => gI SM H' ∧ JM H' ∧ fZ H' 0 2 = fZ H 0 2 ∧ fZ H' 0 41 = fZ H 0 41 ∧ fZ H' 0 42 = fZ H 0 42 ∧ fZ H' 0 43 = fZ H 0 43 ∧ kpM H H' ∧ (∃ A : mzH, tkQ H A ∧ (∀ q : Nat, (q : Int) < (aZ H 2 2).toInt → (inM A q ≠ 0 ↔ (¬ (q : Int) = a1.toInt ∧ ¬ (q : Int) = a2.toInt)) ∧ hoM A q = (aZ H 2 (69 + 5 * q)).toInt) ∧ ∃ G : mzH, clR (rgM G) (mdM G) ∧ rwX H' (fM A G (cnM A)).1 (fM A G (cnM A)).2 ∧ (∀ x : Nat, x < cnM A → (aZ H' 20 (odM A x)).toInt = rvM A G x) ∧ odI H' A (aZ A 2 2).toInt.toNat))) := by
  obtain ⟨k0_2, ek0_2⟩ : ∃ z, z = fZ H 0 2 := ⟨_, rfl⟩
  have ik0_2 : k0_2.toInt = (fZ H 0 2).toInt := by rw [← ek0_2]
  have bk0_2 : 0 ≤ k0_2.toInt ∧ k0_2.toInt ≤ 900 := by rw [ek0_2]; exact fZ_of hI sm_0 rfl
  obtain ⟨k0_41, ek0_41⟩ : ∃ z, z = fZ H 0 41 := ⟨_, rfl⟩
  have ik0_41 : k0_41.toInt = (fZ H 0 41).toInt := by rw [← ek0_41]
  obtain ⟨k0_42, ek0_42⟩ : ∃ z, z = fZ H 0 42 := ⟨_, rfl⟩
  have ik0_42 : k0_42.toInt = (fZ H 0 42).toInt := by rw [← ek0_42]
  obtain ⟨k0_43, ek0_43⟩ : ∃ z, z = fZ H 0 43 := ⟨_, rfl⟩
  have ik0_43 : k0_43.toInt = (fZ H 0 43).toInt := by rw [← ek0_43]
  have mkfr : kpM H H := kpM_r
  refine gG_call [(0, .ref 0), (1, .int a1), (2, .int a2)] ⟨rfl, rfl, rfl, trivial⟩ ?_
  show gG 3 zB_222 (mzBlk zB_222 0) [(0, .ref 0), (1, .int a1), (2, .int a2)] [] H 0 0 _
  refine g_aload_n rfl ?_
  refine g_invvv hI sm_0 rfl rfl rfl rfl (r_182 H hI hJ) (fun H529 r530 => ?_)
  obtain ⟨hIH529, hJH529, m531, m532, m533, m534, p535, p536⟩ := r530
  have e537 : k0_2 = fZ H529 0 2 := ek0_2.trans (m531 0 2).symm
  have e538 : k0_41 = fZ H529 0 41 := ek0_41.trans (m531 0 41).symm
  have e539 : k0_42 = fZ H529 0 42 := ek0_42.trans (m531 0 42).symm
  have e540 : k0_43 = fZ H529 0 43 := ek0_43.trans (m531 0 43).symm
  have m541 : kpM H H529 := kpM_t mkfr m533
  have tH529 : tkW H H529 := tk_kp mkfr ⟨m533, m532, p536⟩
  refine g_iload_n rfl ?_
  refine g_iconst (by decide) (fun v542 kv542 => ?_)
  refine g_if2_eq (fun c543 => ?_) (fun c543 => ?_)
  · refine g_iload_n rfl ?_
    refine g_iconst (by decide) (fun v544 kv544 => ?_)
    refine g_if2_eq (fun c545 => ?_) (fun c545 => ?_)
    · have tqH529 : tkQ H H529 := ⟨m541, fun i => m541.1 2 (by decide) i, fun q hq => by show 0 ≤ (aZ H529 18 q).toInt ∧ _; unfold hoM; rw [show aZ H529 18 q = aZ H529 18 q from (fun _ => rfl) q, (tH529.2.2 q hq).1]; exact hp1 q hq⟩
      refine g_aload_n rfl ?_
      refine g_sipush (by decide) (fun v546 kv546 => ?_)
      refine g_invvv hIH529 sm_0 rfl rfl rfl rfl (r_198 v546 H529 hIH529 hJH529 (hp0 H529 tqH529)) (fun H547 r548 => ?_)
      obtain ⟨hIH547, hJH547, w549, w550, w551, w552, m553, m554, m555, m556, m557, p558, p559⟩ := r548
      have e560 : k0_2 = fZ H547 0 2 := e537.trans w549.symm
      have e561 : k0_41 = fZ H547 0 41 := e538.trans w550.symm
      have e562 : k0_42 = fZ H547 0 42 := e539.trans w551.symm
      have e563 : k0_43 = fZ H547 0 43 := e540.trans w552.symm
      have m564 : kpM H H547 := kpM_t m541 m555
      have xm565 : (∀ i, aZ H547 18 i = aZ H529 18 i) := fun i => (m556 i : aZ H547 18 i = aZ H529 18 i).trans ((fun _ => rfl) i)
      have xm566 : (∀ i, aZ H547 17 i = aZ H529 17 i) := fun i => (m554 i : aZ H547 17 i = aZ H529 17 i).trans ((fun _ => rfl) i)
      obtain ⟨G567, clG567, p568, wdp568, stp568, wyp568, oip568⟩ := p559
      rw [kv546] at stp568
      obtain rfl := st_all (hp0 H529 tqH529) stp568
      exact g_ret ⟨rfl, hIH547, hJH547, (e560.symm.trans ek0_2), (e561.symm.trans ek0_41), (e562.symm.trans ek0_42), (e563.symm.trans ek0_43), m564, ⟨H529, tqH529, (fun q hq => ⟨wi_0 tH529 hq (by omega) (by omega), by show (aZ H529 18 q).toInt = _; rw [show aZ H529 18 q = aZ H529 18 q from (fun _ => rfl) q, (tH529.2.2 q hq).1]⟩), G567, clG567, wdp568, wyp568, oip568⟩⟩
    · refine g_aload_n rfl ?_
      refine g_gfr hIH529 sm_0 rfl ?_
      refine g_iload_n rfl ?_
      refine g_iconst (by decide) (fun v569 kv569 => ?_)
      refine g_zastore hIH529 sm_17 (by omega) (by omega) (fun H570 eH570 hIH570 => ?_)
      have hJH570 : JN H570 := JN_sA (by decide) eH570 hJH529
      have e571 : k0_2 = fZ H570 0 2 := by rw [eH570, fZ_sA]; exact e537
      have e572 : k0_41 = fZ H570 0 41 := by rw [eH570, fZ_sA]; exact e538
      have e573 : k0_42 = fZ H570 0 42 := by rw [eH570, fZ_sA]; exact e539
      have e574 : k0_43 = fZ H570 0 43 := by rw [eH570, fZ_sA]; exact e540
      have m575 : kpM H H570 := kpM_A m541 eH570 (by omega)
      have xm576 : (∀ i, aZ H570 18 i = aZ H529 18 i) := fun i => (by rw [eH570, aZ_sA_nc (by decide)] : aZ H570 18 i = aZ H529 18 i).trans ((fun _ => rfl) i)
      refine g_nop ?_
      have tqH570 : tkQ H H570 := ⟨m575, fun i => m575.1 2 (by decide) i, fun q hq => by show 0 ≤ (aZ H570 18 q).toInt ∧ _; unfold hoM; rw [show aZ H570 18 q = aZ H529 18 q from xm576 q, (tH529.2.2 q hq).1]; exact hp1 q hq⟩
      refine g_aload_n rfl ?_
      refine g_sipush (by decide) (fun v577 kv577 => ?_)
      refine g_invvv hIH570 sm_0 rfl rfl rfl rfl (r_198 v577 H570 hIH570 hJH570 (hp0 H570 tqH570)) (fun H578 r579 => ?_)
      obtain ⟨hIH578, hJH578, w580, w581, w582, w583, m584, m585, m586, m587, m588, p589, p590⟩ := r579
      have e591 : k0_2 = fZ H578 0 2 := e571.trans w580.symm
      have e592 : k0_41 = fZ H578 0 41 := e572.trans w581.symm
      have e593 : k0_42 = fZ H578 0 42 := e573.trans w582.symm
      have e594 : k0_43 = fZ H578 0 43 := e574.trans w583.symm
      have m595 : kpM H H578 := kpM_t m575 m586
      have xm596 : (∀ i, aZ H578 18 i = aZ H529 18 i) := fun i => (m587 i : aZ H578 18 i = aZ H570 18 i).trans (xm576 i)
      obtain ⟨G597, clG597, p598, wdp598, stp598, wyp598, oip598⟩ := p590
      rw [kv577] at stp598
      obtain rfl := st_all (hp0 H570 tqH570) stp598
      exact g_ret ⟨rfl, hIH578, hJH578, (e591.symm.trans ek0_2), (e592.symm.trans ek0_41), (e593.symm.trans ek0_42), (e594.symm.trans ek0_43), m595, ⟨H570, tqH570, (fun q hq => ⟨wi_1 tH529 hq hIH529 eH570 (by omega) kv569 (by omega), by show (aZ H570 18 q).toInt = _; rw [show aZ H570 18 q = aZ H529 18 q from xm576 q, (tH529.2.2 q hq).1]⟩), G597, clG597, wdp598, wyp598, oip598⟩⟩
  · refine g_aload_n rfl ?_
    refine g_gfr hIH529 sm_0 rfl ?_
    refine g_iload_n rfl ?_
    refine g_iconst (by decide) (fun v599 kv599 => ?_)
    refine g_zastore hIH529 sm_17 (by omega) (by omega) (fun H600 eH600 hIH600 => ?_)
    have hJH600 : JN H600 := JN_sA (by decide) eH600 hJH529
    have e601 : k0_2 = fZ H600 0 2 := by rw [eH600, fZ_sA]; exact e537
    have e602 : k0_41 = fZ H600 0 41 := by rw [eH600, fZ_sA]; exact e538
    have e603 : k0_42 = fZ H600 0 42 := by rw [eH600, fZ_sA]; exact e539
    have e604 : k0_43 = fZ H600 0 43 := by rw [eH600, fZ_sA]; exact e540
    have m605 : kpM H H600 := kpM_A m541 eH600 (by omega)
    have xm606 : (∀ i, aZ H600 18 i = aZ H529 18 i) := fun i => (by rw [eH600, aZ_sA_nc (by decide)] : aZ H600 18 i = aZ H529 18 i).trans ((fun _ => rfl) i)
    refine g_nop ?_
    refine g_iload_n rfl ?_
    refine g_iconst (by decide) (fun v607 kv607 => ?_)
    refine g_if2_eq (fun c608 => ?_) (fun c608 => ?_)
    · have tqH600 : tkQ H H600 := ⟨m605, fun i => m605.1 2 (by decide) i, fun q hq => by show 0 ≤ (aZ H600 18 q).toInt ∧ _; unfold hoM; rw [show aZ H600 18 q = aZ H529 18 q from xm606 q, (tH529.2.2 q hq).1]; exact hp1 q hq⟩
      refine g_aload_n rfl ?_
      refine g_sipush (by decide) (fun v609 kv609 => ?_)
      refine g_invvv hIH600 sm_0 rfl rfl rfl rfl (r_198 v609 H600 hIH600 hJH600 (hp0 H600 tqH600)) (fun H610 r611 => ?_)
      obtain ⟨hIH610, hJH610, w612, w613, w614, w615, m616, m617, m618, m619, m620, p621, p622⟩ := r611
      have e623 : k0_2 = fZ H610 0 2 := e601.trans w612.symm
      have e624 : k0_41 = fZ H610 0 41 := e602.trans w613.symm
      have e625 : k0_42 = fZ H610 0 42 := e603.trans w614.symm
      have e626 : k0_43 = fZ H610 0 43 := e604.trans w615.symm
      have m627 : kpM H H610 := kpM_t m605 m618
      have xm628 : (∀ i, aZ H610 18 i = aZ H529 18 i) := fun i => (m619 i : aZ H610 18 i = aZ H600 18 i).trans (xm606 i)
      obtain ⟨G629, clG629, p630, wdp630, stp630, wyp630, oip630⟩ := p622
      rw [kv609] at stp630
      obtain rfl := st_all (hp0 H600 tqH600) stp630
      exact g_ret ⟨rfl, hIH610, hJH610, (e623.symm.trans ek0_2), (e624.symm.trans ek0_41), (e625.symm.trans ek0_42), (e626.symm.trans ek0_43), m627, ⟨H600, tqH600, (fun q hq => ⟨wi_1 tH529 hq hIH529 eH600 (by omega) kv599 (by omega), by show (aZ H600 18 q).toInt = _; rw [show aZ H600 18 q = aZ H529 18 q from xm606 q, (tH529.2.2 q hq).1]⟩), G629, clG629, wdp630, wyp630, oip630⟩⟩
    · refine g_aload_n rfl ?_
      refine g_gfr hIH600 sm_0 rfl ?_
      refine g_iload_n rfl ?_
      refine g_iconst (by decide) (fun v631 kv631 => ?_)
      refine g_zastore hIH600 sm_17 (by omega) (by omega) (fun H632 eH632 hIH632 => ?_)
      have hJH632 : JN H632 := JN_sA (by decide) eH632 hJH600
      have e633 : k0_2 = fZ H632 0 2 := by rw [eH632, fZ_sA]; exact e601
      have e634 : k0_41 = fZ H632 0 41 := by rw [eH632, fZ_sA]; exact e602
      have e635 : k0_42 = fZ H632 0 42 := by rw [eH632, fZ_sA]; exact e603
      have e636 : k0_43 = fZ H632 0 43 := by rw [eH632, fZ_sA]; exact e604
      have m637 : kpM H H632 := kpM_A m605 eH632 (by omega)
      have xm638 : (∀ i, aZ H632 18 i = aZ H529 18 i) := fun i => (by rw [eH632, aZ_sA_nc (by decide)] : aZ H632 18 i = aZ H600 18 i).trans (xm606 i)
      refine g_nop ?_
      have tqH632 : tkQ H H632 := ⟨m637, fun i => m637.1 2 (by decide) i, fun q hq => by show 0 ≤ (aZ H632 18 q).toInt ∧ _; unfold hoM; rw [show aZ H632 18 q = aZ H529 18 q from xm638 q, (tH529.2.2 q hq).1]; exact hp1 q hq⟩
      refine g_aload_n rfl ?_
      refine g_sipush (by decide) (fun v639 kv639 => ?_)
      refine g_invvv hIH632 sm_0 rfl rfl rfl rfl (r_198 v639 H632 hIH632 hJH632 (hp0 H632 tqH632)) (fun H640 r641 => ?_)
      obtain ⟨hIH640, hJH640, w642, w643, w644, w645, m646, m647, m648, m649, m650, p651, p652⟩ := r641
      have e653 : k0_2 = fZ H640 0 2 := e633.trans w642.symm
      have e654 : k0_41 = fZ H640 0 41 := e634.trans w643.symm
      have e655 : k0_42 = fZ H640 0 42 := e635.trans w644.symm
      have e656 : k0_43 = fZ H640 0 43 := e636.trans w645.symm
      have m657 : kpM H H640 := kpM_t m637 m648
      have xm658 : (∀ i, aZ H640 18 i = aZ H529 18 i) := fun i => (m649 i : aZ H640 18 i = aZ H632 18 i).trans (xm638 i)
      obtain ⟨G659, clG659, p660, wdp660, stp660, wyp660, oip660⟩ := p652
      rw [kv639] at stp660
      obtain rfl := st_all (hp0 H632 tqH632) stp660
      exact g_ret ⟨rfl, hIH640, hJH640, (e653.symm.trans ek0_2), (e654.symm.trans ek0_41), (e655.symm.trans ek0_42), (e656.symm.trans ek0_43), m657, ⟨H632, tqH632, (fun q hq => ⟨wi_2 tH529 hq hIH529 hIH600 eH600 eH632 (by omega) (by omega) kv599 kv631, by show (aZ H632 18 q).toInt = _; rw [show aZ H632 18 q = aZ H529 18 q from xm638 q, (tH529.2.2 q hq).1]⟩), G659, clG659, wdp660, wyp660, oip660⟩⟩
