/-! THE REFERENCE RUNS SOME -/
theorem fi_0 {H A B : mzH} {a m : Int} (t : tkW H A) (e : ∀ i, aZ B 17 i = aZ A 17 i) (h : m = a) : ∀ q : Nat, (q : Int) < (aZ H 2 2).toInt → (inM B q ≠ 0 ↔ ((q : Int) < a ∨ m ≤ (q : Int))) := fun q hq => by
  have z : inM B q = 1 := by show (aZ B 17 q).toInt = 1; rw [e]; exact (t.2.2 q hq).2
  rw [z]
  exact ⟨fun _ => by omega, fun _ => by decide⟩
theorem fi_s {H B C : mzH} {a : Int} {m m2 v : Int32} (q : ∀ q : Nat, (q : Int) < (aZ H 2 2).toInt → (inM B q ≠ 0 ↔ ((q : Int) < a ∨ m.toInt ≤ (q : Int)))) (hB : gI SM B) (e : C = sA B 17 m.toInt.toNat v) (hm : m.toInt.toNat < 60) (hv : v.toInt = 0) (h : m2.toInt = m.toInt + 1 ∧ a ≤ m.toInt ∧ 0 ≤ m.toInt) : ∀ q : Nat, (q : Int) < (aZ H 2 2).toInt → (inM C q ≠ 0 ↔ ((q : Int) < a ∨ m2.toInt ≤ (q : Int))) := fun x hx => by
  have k := q x hx
  show (aZ C 17 x).toInt ≠ 0 ↔ _
  if c : x = m.toInt.toNat then
    rw [e, c, aZ_sA_eq hB sm_17 hm, hv]
    exact ⟨fun z => absurd rfl z, fun z => by omega⟩
  else
    rw [e, aZ_sA_ne (by omega)]
    show inM B x ≠ 0 ↔ _
    rw [k]
    omega
theorem sb_kp {H B A : mzH} {P : Nat → Prop} (k : kpM H B) (h : ∀ q : Nat, (q : Int) < (aZ B 2 2).toInt → (inM A q ≠ 0 ↔ P q) ∧ hoM A q = (aZ B 2 (69 + 5 * q)).toInt) : ∀ q : Nat, (q : Int) < (aZ H 2 2).toInt → (inM A q ≠ 0 ↔ P q) ∧ hoM A q = (aZ H 2 (69 + 5 * q)).toInt := fun q hq => by
  have z := h q (by rw [k.1 2 (by decide)]; exact hq)
  rw [k.1 2 (by decide)] at z
  exact z
theorem hr_kp {H B : mzH} (k : kpM H B) (h : ∀ k : Nat, (k : Int) < (aZ H 2 2).toInt → 0 ≤ (aZ H 2 (69 + 5 * k)).toInt ∧ (aZ H 2 (69 + 5 * k)).toInt ≤ 999) : ∀ k : Nat, (k : Int) < (aZ B 2 2).toInt → 0 ≤ (aZ B 2 (69 + 5 * k)).toInt ∧ (aZ B 2 (69 + 5 * k)).toInt ≤ 999 := fun q hq => by
  rw [k.1 2 (by decide)] at hq ⊢
  exact h q hq
set_option maxRecDepth 4000 in
set_option maxHeartbeats 4000000 in
/-- M.runsFirst -/
theorem r_219 (a1 : Int32) (ha1 : 0 ≤ a1.toInt ∧ a1.toInt ≤ 60) (H : mzH) (hI : gI SM H) (hJ : JN H) (hp0 : ((∀ A, tkQ H A → gdM A))) (hp1 : (∀ k : Nat, (k : Int) < (aZ H 2 2).toInt → 0 ≤ (aZ H 2 (69 + 5 * k)).toInt ∧ (aZ H 2 (69 + 5 * k)).toInt ≤ 999)) : gCall 219 [.ref 0, .int a1] H (gRv (fun H' => gI SM H' ∧ JM H' ∧ fZ H' 0 2 = fZ H 0 2 ∧ kpM H H' ∧ (∀ i, aZ H' 24 i = aZ H 24 i) ∧ (∃ A : mzH, tkQ H A ∧ (∀ q : Nat, (q : Int) < (aZ H 2 2).toInt → (inM A q ≠ 0 ↔ (q : Int) < a1.toInt) ∧ hoM A q = (aZ H 2 (69 + 5 * q)).toInt) ∧ ∃ G : mzH, clR (rgM G) (mdM G) ∧ rwX H' (fM A G (cnM A)).1 (fM A G (cnM A)).2 ∧ (∀ x : Nat, x < cnM A → (aZ H' 20 (odM A x)).toInt = rvM A G x) ∧ odI H' A (aZ A 2 2).toInt.toNat))) := by
  obtain ⟨k0_2, ek0_2⟩ : ∃ z, z = fZ H 0 2 := ⟨_, rfl⟩
  have ik0_2 : k0_2.toInt = (fZ H 0 2).toInt := by rw [← ek0_2]
  have bk0_2 : 0 ≤ k0_2.toInt ∧ k0_2.toInt ≤ 900 := by rw [ek0_2]; exact fZ_of hI sm_0 rfl
  have mkfr : kpM H H := kpM_r
  have mk24 : ∀ i, aZ H 24 i = aZ H 24 i := fun _ => rfl
  refine gG_call [(0, .ref 0), (1, .int a1)] ⟨rfl, rfl, trivial⟩ ?_
  show gG 3 zB_219 (mzBlk zB_219 0) [(0, .ref 0), (1, .int a1)] [] H 0 0 _
  refine g_aload_n rfl ?_
  refine g_invvv hI sm_0 rfl rfl rfl rfl (r_182 H hI hJ) (fun H165 r166 => ?_)
  obtain ⟨hIH165, hJH165, m167, m168, m169, m170, p171, p172⟩ := r166
  have e173 : k0_2 = fZ H165 0 2 := ek0_2.trans (m167 0 2).symm
  have m174 : kpM H H165 := kpM_t mkfr m169
  have m175 : ∀ i, aZ H165 24 i = aZ H 24 i := fun i => (m170 i).trans (mk24 i)
  have tH165 : tkW H H165 := tk_kp mkfr ⟨m169, m168, p172⟩
  refine g_iload_n rfl ?_
  refine g_istore_n (l' := [(0, .ref 0), (1, .int a1), (2, .int a1)]) rfl rfl ?_
  refine g_nop ?_
  have L182 : ∀ (N : Nat) (v176 : Int32) (H177 : mzH), gI SM H177 → JN H177 → k0_2 = fZ H177 0 2 → kpM H H177 → (∀ i, aZ H177 24 i = aZ H 24 i) → (0 ≤ v176.toInt ∧ v176.toInt ≤ 60) → (∀ i, aZ H177 18 i = aZ H165 18 i) → (∀ q : Nat, (q : Int) < (aZ H 2 2).toInt → (inM H177 q ≠ 0 ↔ ((q : Int) < a1.toInt ∨ v176.toInt ≤ (q : Int)))) → a1.toInt ≤ v176.toInt → (60 - v176.toInt).toNat < N → gG 3 zB_219 (mzBlk zB_219 1) [(0, .ref 0), (1, .int a1), (2, .int v176)] [] H177 0 0 (gRv (fun H' => gI SM H' ∧ JM H' ∧ fZ H' 0 2 = fZ H 0 2 ∧ kpM H H' ∧ (∀ i, aZ H' 24 i = aZ H 24 i) ∧ (∃ A : mzH, tkQ H A ∧ (∀ q : Nat, (q : Int) < (aZ H 2 2).toInt → (inM A q ≠ 0 ↔ (q : Int) < a1.toInt) ∧ hoM A q = (aZ H 2 (69 + 5 * q)).toInt) ∧ ∃ G : mzH, clR (rgM G) (mdM G) ∧ rwX H' (fM A G (cnM A)).1 (fM A G (cnM A)).2 ∧ (∀ x : Nat, x < cnM A → (aZ H' 20 (odM A x)).toInt = rvM A G x) ∧ odI H' A (aZ A 2 2).toInt.toNat))) := by
    intro N
    induction N with
    | zero => intro v176 H177 hIH177 hJH177 e178 m179 m180 bv176 xq181 q5 q6 hmL182; exact absurd hmL182 (Nat.not_lt_zero _)
    | succ N ihL182 =>
      intro v176 H177 hIH177 hJH177 e178 m179 m180 bv176 xq181 q5 q6 hmL182
      have hq2 := congrArg Int32.toInt (m179.1 2 (by decide) 2)
      refine g_iload_n rfl ?_
      refine g_aload_n rfl ?_
      refine g_invvi hIH177 sm_0 rfl rfl rfl rfl (s_180 H177 hIH177 hJH177) (fun v185 H183 r184 => ?_)
      obtain ⟨rfl, bv185, p186⟩ := r184
      refine g_if2_ge (fun c187 => ?_) (fun c187 => ?_)
      · have tqH177 : tkQ H H177 := ⟨m179, fun i => m179.1 2 (by decide) i, fun q hq => by show 0 ≤ (aZ H177 18 q).toInt ∧ _; unfold hoM; rw [show aZ H177 18 q = aZ H165 18 q from xq181 q, (tH165.2.2 q hq).1]; exact hp1 q hq⟩
        refine g_aload_n rfl ?_
        refine g_sipush (by decide) (fun v188 kv188 => ?_)
        refine g_invvv hIH177 sm_0 rfl rfl rfl rfl (r_198 v188 H177 hIH177 hJH177 (hp0 H177 tqH177)) (fun H189 r190 => ?_)
        obtain ⟨hIH189, hJH189, w191, m192, m193, m194, m195, m196, p197, p198⟩ := r190
        have e199 : k0_2 = fZ H189 0 2 := e178.trans w191.symm
        have m200 : kpM H H189 := kpM_t m179 m194
        have m201 : ∀ i, aZ H189 24 i = aZ H 24 i := fun i => (m196 i).trans (m180 i)
        have xm202 : (∀ i, aZ H189 18 i = aZ H165 18 i) := fun i => (m195 i : aZ H189 18 i = aZ H177 18 i).trans (xq181 i)
        obtain ⟨G203, clG203, p204, wdp204, stp204, wyp204, oip204⟩ := p198
        rw [kv188] at stp204
        obtain rfl := st_all (hp0 H177 tqH177) stp204
        exact g_ret ⟨rfl, hIH189, hJH189, (e199.symm.trans ek0_2), m200, m201, ⟨H177, tqH177, fun q hq => ⟨by rw [q5 q hq]; omega, by show (aZ H177 18 q).toInt = _; rw [show aZ H177 18 q = aZ H165 18 q from xq181 q, (tH165.2.2 q hq).1]⟩, G203, clG203, wdp204, wyp204, oip204⟩⟩
      · refine g_aload_n rfl ?_
        refine g_gfr hIH177 sm_0 rfl ?_
        refine g_iload_n rfl ?_
        refine g_iconst (by decide) (fun v205 kv205 => ?_)
        refine g_zastore hIH177 sm_17 (by omega) (by omega) (fun H206 eH206 hIH206 => ?_)
        have hJH206 : JN H206 := JN_sA (by decide) eH206 hJH177
        have e207 : k0_2 = fZ H206 0 2 := by rw [eH206, fZ_sA]; exact e178
        have m208 : kpM H H206 := kpM_A m179 eH206 (by omega)
        have m209 : ∀ i, aZ H206 24 i = aZ H 24 i := fun i => (by rw [eH206, aZ_sA_nc (by omega)] : aZ H206 24 i = aZ H177 24 i).trans (m180 i)
        have xm210 : (∀ i, aZ H206 18 i = aZ H165 18 i) := fun i => (by rw [eH206, aZ_sA_nc (by decide)] : aZ H206 18 i = aZ H177 18 i).trans (xq181 i)
        refine g_iinc (l' := (fun v211 => [(0, .ref 0), (1, .int a1), (2, .int v211)])) rfl rfl (by decide) (by omega) (fun _ => rfl) (fun v211 ev211 => ?_)
        refine g_goto ?_
        exact ihL182 v211 H206 hIH206 hJH206 e207 m208 m209 (by omega) xm210 (fi_s q5 hIH177 eH206 (by omega) kv205 (by omega)) (by omega) (by omega)
  exact L182 _ a1 H165 hIH165 hJH165 e173 m174 m175 (by omega) (fun _ => rfl) (fi_0 tH165 (fun _ => rfl) (by omega)) (by omega) (Nat.lt_succ_self _)
