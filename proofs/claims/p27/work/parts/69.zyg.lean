/-! THE REFERENCE RUNS SOME -/
theorem sb_kp {H B A : mzH} {P : Nat → Prop} (k : kpM H B) (h : ∀ q : Nat, (q : Int) < (aZ B 2 2).toInt → (inM A q ≠ 0 ↔ P q) ∧ hoM A q = (aZ B 2 (69 + 5 * q)).toInt) : ∀ q : Nat, (q : Int) < (aZ H 2 2).toInt → (inM A q ≠ 0 ↔ P q) ∧ hoM A q = (aZ H 2 (69 + 5 * q)).toInt := fun q hq => by
  have z := h q (by rw [k.1 2 (by decide)]; exact hq)
  rw [k.1 2 (by decide)] at z
  exact z
theorem sb_wo {H A : mzH} {a b : Int} (e : b = -1) (h : ∀ q : Nat, (q : Int) < (aZ H 2 2).toInt → (inM A q ≠ 0 ↔ (¬ (q : Int) = a ∧ ¬ (q : Int) = b)) ∧ hoM A q = (aZ H 2 (69 + 5 * q)).toInt) : ∀ q : Nat, (q : Int) < (aZ H 2 2).toInt → (inM A q ≠ 0 ↔ ¬ (q : Int) = a) ∧ hoM A q = (aZ H 2 (69 + 5 * q)).toInt := fun q hq => by
  obtain ⟨z1, z2⟩ := h q hq
  refine ⟨?_, z2⟩
  rw [z1]
  exact ⟨fun y => y.1, fun y => ⟨y, by omega⟩⟩
theorem in_sA {B C : mzH} {m v : Int32} (hB : gI SM B) (e : C = sA B 17 m.toInt.toNat v) (hm : 0 ≤ m.toInt ∧ m.toInt ≤ 59) (hv : v.toInt = 0) (q : Nat) : inM C q = if (q : Int) = m.toInt then 0 else inM B q := by
  show (aZ C 17 q).toInt = _
  if c : (q : Int) = m.toInt then rw [if_pos c, e, show q = m.toInt.toNat by omega, aZ_sA_eq hB sm_17 (by omega), hv]
  else
    rw [if_neg c, e, aZ_sA_ne (by omega)]
    rfl
theorem wi_0 {H A : mzH} {a b : Int} {q : Nat} (t : tkW H A) (hq : (q : Int) < (aZ H 2 2).toInt) (ha : a < 0) (hb : b < 0) : inM A q ≠ 0 ↔ (¬ (q : Int) = a ∧ ¬ (q : Int) = b) := by
  rw [show inM A q = 1 from (t.2.2 q hq).2]
  exact ⟨fun _ => by omega, fun _ => by decide⟩
theorem wi_1 {H A C : mzH} {a b : Int} {m v : Int32} {q : Nat} (t : tkW H A) (hq : (q : Int) < (aZ H 2 2).toInt) (hB : gI SM A) (e : C = sA A 17 m.toInt.toNat v) (hm : 0 ≤ m.toInt ∧ m.toInt ≤ 59) (hv : v.toInt = 0) (h : (a = m.toInt ∧ b < 0) ∨ (b = m.toInt ∧ a < 0)) : inM C q ≠ 0 ↔ (¬ (q : Int) = a ∧ ¬ (q : Int) = b) := by
  rw [in_sA hB e hm hv q, show inM A q = 1 from (t.2.2 q hq).2]
  split
  · exact ⟨fun z => absurd rfl z, fun z => by omega⟩
  · exact ⟨fun _ => by omega, fun _ => by decide⟩
theorem wi_2 {H A B C : mzH} {m m2 v v2 : Int32} {q : Nat} (t : tkW H A) (hq : (q : Int) < (aZ H 2 2).toInt) (hA : gI SM A) (hB : gI SM B) (e : B = sA A 17 m.toInt.toNat v) (e2 : C = sA B 17 m2.toInt.toNat v2) (hm : 0 ≤ m.toInt ∧ m.toInt ≤ 59) (hm2 : 0 ≤ m2.toInt ∧ m2.toInt ≤ 59) (hv : v.toInt = 0) (hv2 : v2.toInt = 0) : inM C q ≠ 0 ↔ (¬ (q : Int) = m.toInt ∧ ¬ (q : Int) = m2.toInt) := by
  rw [in_sA hB e2 hm2 hv2 q, in_sA hA e hm hv q, show inM A q = 1 from (t.2.2 q hq).2]
  split
  · exact ⟨fun z => absurd rfl z, fun z => by omega⟩
  · split
    · exact ⟨fun z => absurd rfl z, fun z => by omega⟩
    · exact ⟨fun _ => by omega, fun _ => by decide⟩
theorem hr_kp {H B : mzH} (k : kpM H B) (h : ∀ k : Nat, (k : Int) < (aZ H 2 2).toInt → 0 ≤ (aZ H 2 (69 + 5 * k)).toInt ∧ (aZ H 2 (69 + 5 * k)).toInt ≤ 999) : ∀ k : Nat, (k : Int) < (aZ B 2 2).toInt → 0 ≤ (aZ B 2 (69 + 5 * k)).toInt ∧ (aZ B 2 (69 + 5 * k)).toInt ≤ 999 := fun q hq => by
  rw [k.1 2 (by decide)] at hq ⊢
  exact h q hq
set_option maxRecDepth 4000 in
set_option maxHeartbeats 4000000 in
/-- M.runsWithout -/
theorem r_222 (a1 : Int32) (ha1 : -1 ≤ a1.toInt ∧ a1.toInt ≤ 59) (a2 : Int32) (ha2 : -1 ≤ a2.toInt ∧ a2.toInt ≤ 59) (H : mzH) (hI : gI SM H) (hJ : JN H) (hp0 : ((∀ A, tkQ H A → gdM A))) (hp1 : (∀ k : Nat, (k : Int) < (aZ H 2 2).toInt → 0 ≤ (aZ H 2 (69 + 5 * k)).toInt ∧ (aZ H 2 (69 + 5 * k)).toInt ≤ 999)) : gCall 222 [.ref 0, .int a1, .int a2] H (gRv (fun H' => gI SM H' ∧ JM H' ∧ fZ H' 0 2 = fZ H 0 2 ∧ kpM H H' ∧ (∃ A : mzH, tkQ H A ∧ (∀ q : Nat, (q : Int) < (aZ H 2 2).toInt → (inM A q ≠ 0 ↔ (¬ (q : Int) = a1.toInt ∧ ¬ (q : Int) = a2.toInt)) ∧ hoM A q = (aZ H 2 (69 + 5 * q)).toInt) ∧ ∃ G : mzH, clR (rgM G) (mdM G) ∧ rwX H' (fM A G (cnM A)).1 (fM A G (cnM A)).2 ∧ (∀ x : Nat, x < cnM A → (aZ H' 20 (odM A x)).toInt = rvM A G x) ∧ odI H' A (aZ A 2 2).toInt.toNat))) := by
  obtain ⟨k0_2, ek0_2⟩ : ∃ z, z = fZ H 0 2 := ⟨_, rfl⟩
  have ik0_2 : k0_2.toInt = (fZ H 0 2).toInt := by rw [← ek0_2]
  have bk0_2 : 0 ≤ k0_2.toInt ∧ k0_2.toInt ≤ 900 := by rw [ek0_2]; exact fZ_of hI sm_0 rfl
  have mkfr : kpM H H := kpM_r
  refine gG_call [(0, .ref 0), (1, .int a1), (2, .int a2)] ⟨rfl, rfl, rfl, trivial⟩ ?_
  show gG 3 zB_222 (mzBlk zB_222 0) [(0, .ref 0), (1, .int a1), (2, .int a2)] [] H 0 0 _
  refine g_aload_n rfl ?_
  refine g_invvv hI sm_0 rfl rfl rfl rfl (r_182 H hI hJ) (fun H385 r386 => ?_)
  obtain ⟨hIH385, hJH385, m387, m388, m389, m390, p391, p392⟩ := r386
  have e393 : k0_2 = fZ H385 0 2 := ek0_2.trans (m387 0 2).symm
  have m394 : kpM H H385 := kpM_t mkfr m389
  have tH385 : tkW H H385 := tk_kp mkfr ⟨m389, m388, p392⟩
  refine g_iload_n rfl ?_
  refine g_iconst (by decide) (fun v395 kv395 => ?_)
  refine g_if2_eq (fun c396 => ?_) (fun c396 => ?_)
  · refine g_iload_n rfl ?_
    refine g_iconst (by decide) (fun v397 kv397 => ?_)
    refine g_if2_eq (fun c398 => ?_) (fun c398 => ?_)
    · have tqH385 : tkQ H H385 := ⟨m394, fun i => m394.1 2 (by decide) i, fun q hq => by show 0 ≤ (aZ H385 18 q).toInt ∧ _; unfold hoM; rw [show aZ H385 18 q = aZ H385 18 q from (fun _ => rfl) q, (tH385.2.2 q hq).1]; exact hp1 q hq⟩
      refine g_aload_n rfl ?_
      refine g_sipush (by decide) (fun v399 kv399 => ?_)
      refine g_invvv hIH385 sm_0 rfl rfl rfl rfl (r_198 v399 H385 hIH385 hJH385 (hp0 H385 tqH385)) (fun H400 r401 => ?_)
      obtain ⟨hIH400, hJH400, w402, m403, m404, m405, m406, m407, p408, p409⟩ := r401
      have e410 : k0_2 = fZ H400 0 2 := e393.trans w402.symm
      have m411 : kpM H H400 := kpM_t m394 m405
      have xm412 : (∀ i, aZ H400 18 i = aZ H385 18 i) := fun i => (m406 i : aZ H400 18 i = aZ H385 18 i).trans ((fun _ => rfl) i)
      have xm413 : (∀ i, aZ H400 17 i = aZ H385 17 i) := fun i => (m404 i : aZ H400 17 i = aZ H385 17 i).trans ((fun _ => rfl) i)
      obtain ⟨G414, clG414, p415, wdp415, stp415, wyp415, oip415⟩ := p409
      rw [kv399] at stp415
      obtain rfl := st_all (hp0 H385 tqH385) stp415
      exact g_ret ⟨rfl, hIH400, hJH400, (e410.symm.trans ek0_2), m411, ⟨H385, tqH385, (fun q hq => ⟨wi_0 tH385 hq (by omega) (by omega), by show (aZ H385 18 q).toInt = _; rw [show aZ H385 18 q = aZ H385 18 q from (fun _ => rfl) q, (tH385.2.2 q hq).1]⟩), G414, clG414, wdp415, wyp415, oip415⟩⟩
    · refine g_aload_n rfl ?_
      refine g_gfr hIH385 sm_0 rfl ?_
      refine g_iload_n rfl ?_
      refine g_iconst (by decide) (fun v416 kv416 => ?_)
      refine g_zastore hIH385 sm_17 (by omega) (by omega) (fun H417 eH417 hIH417 => ?_)
      have hJH417 : JN H417 := JN_sA (by decide) eH417 hJH385
      have e418 : k0_2 = fZ H417 0 2 := by rw [eH417, fZ_sA]; exact e393
      have m419 : kpM H H417 := kpM_A m394 eH417 (by omega)
      have xm420 : (∀ i, aZ H417 18 i = aZ H385 18 i) := fun i => (by rw [eH417, aZ_sA_nc (by decide)] : aZ H417 18 i = aZ H385 18 i).trans ((fun _ => rfl) i)
      refine g_nop ?_
      have tqH417 : tkQ H H417 := ⟨m419, fun i => m419.1 2 (by decide) i, fun q hq => by show 0 ≤ (aZ H417 18 q).toInt ∧ _; unfold hoM; rw [show aZ H417 18 q = aZ H385 18 q from xm420 q, (tH385.2.2 q hq).1]; exact hp1 q hq⟩
      refine g_aload_n rfl ?_
      refine g_sipush (by decide) (fun v421 kv421 => ?_)
      refine g_invvv hIH417 sm_0 rfl rfl rfl rfl (r_198 v421 H417 hIH417 hJH417 (hp0 H417 tqH417)) (fun H422 r423 => ?_)
      obtain ⟨hIH422, hJH422, w424, m425, m426, m427, m428, m429, p430, p431⟩ := r423
      have e432 : k0_2 = fZ H422 0 2 := e418.trans w424.symm
      have m433 : kpM H H422 := kpM_t m419 m427
      have xm434 : (∀ i, aZ H422 18 i = aZ H385 18 i) := fun i => (m428 i : aZ H422 18 i = aZ H417 18 i).trans (xm420 i)
      obtain ⟨G435, clG435, p436, wdp436, stp436, wyp436, oip436⟩ := p431
      rw [kv421] at stp436
      obtain rfl := st_all (hp0 H417 tqH417) stp436
      exact g_ret ⟨rfl, hIH422, hJH422, (e432.symm.trans ek0_2), m433, ⟨H417, tqH417, (fun q hq => ⟨wi_1 tH385 hq hIH385 eH417 (by omega) kv416 (by omega), by show (aZ H417 18 q).toInt = _; rw [show aZ H417 18 q = aZ H385 18 q from xm420 q, (tH385.2.2 q hq).1]⟩), G435, clG435, wdp436, wyp436, oip436⟩⟩
  · refine g_aload_n rfl ?_
    refine g_gfr hIH385 sm_0 rfl ?_
    refine g_iload_n rfl ?_
    refine g_iconst (by decide) (fun v437 kv437 => ?_)
    refine g_zastore hIH385 sm_17 (by omega) (by omega) (fun H438 eH438 hIH438 => ?_)
    have hJH438 : JN H438 := JN_sA (by decide) eH438 hJH385
    have e439 : k0_2 = fZ H438 0 2 := by rw [eH438, fZ_sA]; exact e393
    have m440 : kpM H H438 := kpM_A m394 eH438 (by omega)
    have xm441 : (∀ i, aZ H438 18 i = aZ H385 18 i) := fun i => (by rw [eH438, aZ_sA_nc (by decide)] : aZ H438 18 i = aZ H385 18 i).trans ((fun _ => rfl) i)
    refine g_nop ?_
    refine g_iload_n rfl ?_
    refine g_iconst (by decide) (fun v442 kv442 => ?_)
    refine g_if2_eq (fun c443 => ?_) (fun c443 => ?_)
    · have tqH438 : tkQ H H438 := ⟨m440, fun i => m440.1 2 (by decide) i, fun q hq => by show 0 ≤ (aZ H438 18 q).toInt ∧ _; unfold hoM; rw [show aZ H438 18 q = aZ H385 18 q from xm441 q, (tH385.2.2 q hq).1]; exact hp1 q hq⟩
      refine g_aload_n rfl ?_
      refine g_sipush (by decide) (fun v444 kv444 => ?_)
      refine g_invvv hIH438 sm_0 rfl rfl rfl rfl (r_198 v444 H438 hIH438 hJH438 (hp0 H438 tqH438)) (fun H445 r446 => ?_)
      obtain ⟨hIH445, hJH445, w447, m448, m449, m450, m451, m452, p453, p454⟩ := r446
      have e455 : k0_2 = fZ H445 0 2 := e439.trans w447.symm
      have m456 : kpM H H445 := kpM_t m440 m450
      have xm457 : (∀ i, aZ H445 18 i = aZ H385 18 i) := fun i => (m451 i : aZ H445 18 i = aZ H438 18 i).trans (xm441 i)
      obtain ⟨G458, clG458, p459, wdp459, stp459, wyp459, oip459⟩ := p454
      rw [kv444] at stp459
      obtain rfl := st_all (hp0 H438 tqH438) stp459
      exact g_ret ⟨rfl, hIH445, hJH445, (e455.symm.trans ek0_2), m456, ⟨H438, tqH438, (fun q hq => ⟨wi_1 tH385 hq hIH385 eH438 (by omega) kv437 (by omega), by show (aZ H438 18 q).toInt = _; rw [show aZ H438 18 q = aZ H385 18 q from xm441 q, (tH385.2.2 q hq).1]⟩), G458, clG458, wdp459, wyp459, oip459⟩⟩
    · refine g_aload_n rfl ?_
      refine g_gfr hIH438 sm_0 rfl ?_
      refine g_iload_n rfl ?_
      refine g_iconst (by decide) (fun v460 kv460 => ?_)
      refine g_zastore hIH438 sm_17 (by omega) (by omega) (fun H461 eH461 hIH461 => ?_)
      have hJH461 : JN H461 := JN_sA (by decide) eH461 hJH438
      have e462 : k0_2 = fZ H461 0 2 := by rw [eH461, fZ_sA]; exact e439
      have m463 : kpM H H461 := kpM_A m440 eH461 (by omega)
      have xm464 : (∀ i, aZ H461 18 i = aZ H385 18 i) := fun i => (by rw [eH461, aZ_sA_nc (by decide)] : aZ H461 18 i = aZ H438 18 i).trans (xm441 i)
      refine g_nop ?_
      have tqH461 : tkQ H H461 := ⟨m463, fun i => m463.1 2 (by decide) i, fun q hq => by show 0 ≤ (aZ H461 18 q).toInt ∧ _; unfold hoM; rw [show aZ H461 18 q = aZ H385 18 q from xm464 q, (tH385.2.2 q hq).1]; exact hp1 q hq⟩
      refine g_aload_n rfl ?_
      refine g_sipush (by decide) (fun v465 kv465 => ?_)
      refine g_invvv hIH461 sm_0 rfl rfl rfl rfl (r_198 v465 H461 hIH461 hJH461 (hp0 H461 tqH461)) (fun H466 r467 => ?_)
      obtain ⟨hIH466, hJH466, w468, m469, m470, m471, m472, m473, p474, p475⟩ := r467
      have e476 : k0_2 = fZ H466 0 2 := e462.trans w468.symm
      have m477 : kpM H H466 := kpM_t m463 m471
      have xm478 : (∀ i, aZ H466 18 i = aZ H385 18 i) := fun i => (m472 i : aZ H466 18 i = aZ H461 18 i).trans (xm464 i)
      obtain ⟨G479, clG479, p480, wdp480, stp480, wyp480, oip480⟩ := p475
      rw [kv465] at stp480
      obtain rfl := st_all (hp0 H461 tqH461) stp480
      exact g_ret ⟨rfl, hIH466, hJH466, (e476.symm.trans ek0_2), m477, ⟨H461, tqH461, (fun q hq => ⟨wi_2 tH385 hq hIH385 hIH438 eH438 eH461 (by omega) (by omega) kv437 kv460, by show (aZ H461 18 q).toInt = _; rw [show aZ H461 18 q = aZ H385 18 q from xm464 q, (tH385.2.2 q hq).1]⟩), G479, clG479, wdp480, wyp480, oip480⟩⟩
