/-! THE REFERENCE WITHOUT ONE -/
theorem tkQ_o {H A : mzH} (h : ∀ k : Nat, (k : Int) < (aZ H 2 2).toInt → 0 ≤ (aZ H 2 (69 + 5 * k)).toInt ∧ (aZ H 2 (69 + 5 * k)).toInt ≤ 999) (t : tkW H A) : tkQ H A := ⟨t.1, t.2.1, fun q hq => by
  unfold hoM
  rw [(t.2.2 q hq).1]
  exact h q hq⟩
theorem od_mem {H A : mzH} {k : Nat} (e2 : ∀ i, aZ A 2 i = aZ H 2 i) (hk : (k : Int) < (aZ H 2 2).toInt) (hi : inM A k ≠ 0) : ∃ x, x < cnM A ∧ odM A x = k :=
  ((ord2_ok (I := inM A) (hr := hoM A) (aZ A 2 2).toInt.toNat).2 k).mpr ⟨by rw [e2]; omega, hi⟩
theorem ra_y {H A G B : mzH} {k v w0 : Int} (hp : ∀ x : Nat, x < cnM A → (odM A x : Int) = k → rvM A G x = w0) (u : tkW H A) (wy : ∀ x : Nat, x < cnM A → (aZ B 20 (odM A x)).toInt = rvM A G x) (hk : 0 ≤ k ∧ k < (aZ H 2 2).toInt) (e : v = (aZ B 20 k.toNat).toInt) : v = w0 := by
  obtain ⟨x, hx, ex⟩ := od_mem (k := k.toNat) u.2.1 (by omega) (by
    rw [show inM A k.toNat = 1 from (u.2.2 k.toNat (by omega)).2]
    decide)
  rw [e, ← hp x hx (by omega), ← wy x hx, ex]
theorem wo_y {H A G B : mzH} {k m v y : Int} (u : tkQ H A) (sd : ∀ q : Nat, (q : Int) < (aZ H 2 2).toInt → (inM A q ≠ 0 ↔ ¬ (q : Int) = m) ∧ hoM A q = (aZ H 2 (69 + 5 * q)).toInt) (_ : clR (rgM G) (mdM G)) (wy : ∀ x : Nat, x < cnM A → (aZ B 20 (odM A x)).toInt = rvM A G x) (hk : 0 ≤ k ∧ k < (aZ H 2 2).toInt) (hm : ¬ m = k) (e : v = (aZ B 20 k.toNat).toInt) (hp : ∀ x : Nat, x < cnM A → (odM A x : Int) = k → rvM A G x = y) : v = y := by
  obtain ⟨x, hx, ex⟩ := od_mem (k := k.toNat) u.2.1 (by omega) ((sd k.toNat (by omega)).1.mpr (by omega))
  rw [e, ← hp x hx (by omega), ← wy x hx, ex]
set_option maxRecDepth 4000 in
set_option maxHeartbeats 4000000 in
/-- M.isRefused -/
theorem r_229 {w0 : Int} (a1 : Int32) (ha1 : 0 ≤ a1.toInt ∧ a1.toInt ≤ 59) (H : mzH) (hI : gI SM H) (hJ : JN H) (hp0 : ((∀ A, tkW H A → gdM A))) (hp1 : (∀ A : mzH, tkW H A → ∀ G : mzH, clR (rgM G) (mdM G) → ∀ x : Nat, x < cnM A → (odM A x : Int) = a1.toInt → rvM A G x = w0)) (hp2 : (0 ≤ a1.toInt ∧ a1.toInt < (aZ H 2 2).toInt)) : gCall 229 [.ref 0, .int a1] H (gRi (fun v H' => gI SM H' ∧ JN H' ∧ (0 ≤ v.toInt ∧ v.toInt ≤ 1) ∧ fZ H' 0 2 = fZ H 0 2 ∧ kpM H H' ∧ ((v.toInt = 1 ∧ ¬ w0 = 0) ∨ (v.toInt = 0 ∧ w0 = 0)))) := by
  obtain ⟨k0_2, ek0_2⟩ : ∃ z, z = fZ H 0 2 := ⟨_, rfl⟩
  have ik0_2 : k0_2.toInt = (fZ H 0 2).toInt := by rw [← ek0_2]
  have bk0_2 : 0 ≤ k0_2.toInt ∧ k0_2.toInt ≤ 900 := by rw [ek0_2]; exact fZ_of hI sm_0 rfl
  have mkfr : kpM H H := kpM_r
  refine gG_call [(0, .ref 0), (1, .int a1)] ⟨rfl, rfl, trivial⟩ ?_
  show gG 2 zB_229 (mzBlk zB_229 0) [(0, .ref 0), (1, .int a1)] [] H 0 0 _
  refine g_aload_n rfl ?_
  refine g_invvv hI sm_0 rfl rfl rfl rfl (r_199 H hI hJ (fun A t => hp0 A (tk_kp mkfr t))) (fun H65 r66 => ?_)
  obtain ⟨hIH65, hJH65, w67, m68, m69, p70, p71⟩ := r66
  have e72 : k0_2 = fZ H65 0 2 := ek0_2.trans w67.symm
  have m73 : kpM H H65 := kpM_t mkfr m69
  obtain ⟨A74, tA74, G75, cG75, wdp76, wyp76, oip76⟩ := p71
  have uA74 : tkW H A74 := tk_kp mkfr tA74
  have hm2 := congrArg Int32.toInt (m73.1 2 (by decide) 2)
  refine g_aload_n rfl ?_
  refine g_gfr hIH65 sm_0 rfl ?_
  refine g_iload_n rfl ?_
  refine g_iaload hIH65 sm_20 rfl (by omega) (fun v77 ev77 lv77 uv77 => ?_)
  have yv77 : v77.toInt = w0 := ra_y (hp1 A74 uA74 G75 cG75) uA74 wyp76 hp2 (by rw [ev77])
  refine g_if_eq (fun c78 => ?_) (fun c78 => ?_)
  · refine g_iconst (by decide) (fun v79 kv79 => ?_)
    refine g_nop ?_
    exact g_zret (by omega) ⟨_, rfl, hIH65, (JM_n hJH65), (by omega), (e72.symm.trans ek0_2), m73, (by omega)⟩
  · refine g_iconst (by decide) (fun v80 kv80 => ?_)
    refine g_goto ?_
    exact g_zret (by omega) ⟨_, rfl, hIH65, (JM_n hJH65), (by omega), (e72.symm.trans ek0_2), m73, (by omega)⟩
set_option maxRecDepth 4000 in
set_option maxHeartbeats 4000000 in
/-- M.cause -/
theorem r_230 {w : Nat → Int} {w0 : Int} (a1 : Int32) (H : mzH) (hI : gI SM H) (hJ : JN H) (hp0 : ((∀ A, tkQ H A → gdM A))) (hp1 : (∀ k : Nat, (k : Int) < (aZ H 2 2).toInt → 0 ≤ (aZ H 2 (69 + 5 * k)).toInt ∧ (aZ H 2 (69 + 5 * k)).toInt ≤ 999)) (hp2 : (∀ m : Nat, ¬ (m : Int) = a1.toInt → ∀ A : mzH, tkQ H A → (∀ q : Nat, (q : Int) < (aZ H 2 2).toInt → (inM A q ≠ 0 ↔ ¬ (q : Int) = (m : Int)) ∧ hoM A q = (aZ H 2 (69 + 5 * q)).toInt) → ∀ G : mzH, clR (rgM G) (mdM G) → ∀ x : Nat, x < cnM A → (odM A x : Int) = a1.toInt → rvM A G x = w m)) (hp3 : (∀ A : mzH, tkW H A → ∀ G : mzH, clR (rgM G) (mdM G) → ∀ x : Nat, x < cnM A → (odM A x : Int) = a1.toInt → rvM A G x = w0)) : gCall 230 [.ref 0, .int a1] H (gRi (fun v H' => gI SM H' ∧ JN H' ∧ fZ H' 0 2 = fZ H 0 2 ∧ kpM H H' ∧ ((v.toInt = -1 ∧ ¬ (0 ≤ a1.toInt ∧ a1.toInt < (aZ H 2 2).toInt)) ∨ ((0 ≤ a1.toInt ∧ a1.toInt < (aZ H 2 2).toInt) ∧ ((w0 = 0 ∧ v.toInt = -3) ∨ (¬ w0 = 0 ∧ v.toInt = pkF (fun m : Nat => if ¬ (m : Int) = a1.toInt ∧ w m = 0 then (1 : Int) else 0) (aZ H 2 2).toInt.toNat 0 0)))))) := by
  obtain ⟨k0_2, ek0_2⟩ : ∃ z, z = fZ H 0 2 := ⟨_, rfl⟩
  have ik0_2 : k0_2.toInt = (fZ H 0 2).toInt := by rw [← ek0_2]
  have bk0_2 : 0 ≤ k0_2.toInt ∧ k0_2.toInt ≤ 900 := by rw [ek0_2]; exact fZ_of hI sm_0 rfl
  have mkfr : kpM H H := kpM_r
  refine gG_call [(0, .ref 0), (1, .int a1)] ⟨rfl, rfl, trivial⟩ ?_
  show gG 3 zB_230 (mzBlk zB_230 0) [(0, .ref 0), (1, .int a1)] [] H 0 0 _
  refine g_aload_n rfl ?_
  refine g_iconst (by decide) (fun v401 kv401 => ?_)
  refine g_pfi hI sm_0 rfl (gz_any _) (fun H402 eH402 hIH402 => ?_)
  have hJH402 : JN H402 := JN_sF eH402 hJ
  have e403 : k0_2 = fZ H402 0 2 := by rw [eH402, fZ_sF_ne (by decide)]; exact ek0_2
  have m404 : kpM H H402 := kpM_F mkfr eH402 (by omega)
  refine g_iload_n rfl ?_
  refine g_if_lt (fun c405 => ?_) (fun c405 => ?_)
  · refine g_iconst (by decide) (fun v406 kv406 => ?_)
    exact g_iret ⟨_, rfl, hIH402, hJH402, (e403.symm.trans ek0_2), m404, (Or.inl ⟨by omega, by omega⟩)⟩
  · refine g_iload_n rfl ?_
    refine g_aload_n rfl ?_
    refine g_invvi hIH402 sm_0 rfl rfl rfl rfl (s_180 H402 hIH402 hJH402) (fun v409 H407 r408 => ?_)
    obtain ⟨rfl, bv409, p410⟩ := r408
    have hm2 := congrArg Int32.toInt (m404.1 2 (by decide) 2)
    refine g_if2_lt (fun c411 => ?_) (fun c411 => ?_)
    · refine g_aload_n rfl ?_
      refine g_iload_n rfl ?_
      refine g_invvi hIH402 sm_0 rfl rfl rfl rfl (r_229 a1 (by omega) H402 hIH402 hJH402 (fun A t => hp0 A (tkQ_o hp1 (tk_kp m404 t))) (fun A t => hp3 A (tk_kp m404 t)) (by rw [m404.1 2 (by decide)]; omega)) (fun v414 H412 r413 => ?_)
      obtain ⟨hIH412, hJH412, bv414, w415, m416, p417⟩ := r413
      have e418 : k0_2 = fZ H412 0 2 := e403.trans w415.symm
      have m419 : kpM H H412 := kpM_t m404 m416
      refine g_if_ne (fun c420 => ?_) (fun c420 => ?_)
      · refine g_iconst (by decide) (fun v421 kv421 => ?_)
        refine g_istore_n (l' := [(0, .ref 0), (1, .int a1), (2, .int v421)]) rfl rfl ?_
        refine g_nop ?_
        have L426 : ∀ (N : Nat) (v422 : Int32) (H423 : mzH), gI SM H423 → JN H423 → k0_2 = fZ H423 0 2 → kpM H H423 → (0 ≤ v422.toInt ∧ v422.toInt ≤ 60) → pkF (fun m : Nat => if ¬ (m : Int) = a1.toInt ∧ w m = 0 then (1 : Int) else 0) ((aZ H 2 2).toInt.toNat - v422.toInt.toNat) v422.toInt.toNat 0 = pkF (fun m : Nat => if ¬ (m : Int) = a1.toInt ∧ w m = 0 then (1 : Int) else 0) (aZ H 2 2).toInt.toNat 0 0 → (v422.toInt ≤ 0 ∨ v422.toInt ≤ (aZ H 2 2).toInt) → (60 - v422.toInt).toNat < N → gG 3 zB_230 (mzBlk zB_230 4) [(0, .ref 0), (1, .int a1), (2, .int v422)] [] H423 0 0 (gRi (fun v H' => gI SM H' ∧ JN H' ∧ fZ H' 0 2 = fZ H 0 2 ∧ kpM H H' ∧ ((v.toInt = -1 ∧ ¬ (0 ≤ a1.toInt ∧ a1.toInt < (aZ H 2 2).toInt)) ∨ ((0 ≤ a1.toInt ∧ a1.toInt < (aZ H 2 2).toInt) ∧ ((w0 = 0 ∧ v.toInt = -3) ∨ (¬ w0 = 0 ∧ v.toInt = pkF (fun m : Nat => if ¬ (m : Int) = a1.toInt ∧ w m = 0 then (1 : Int) else 0) (aZ H 2 2).toInt.toNat 0 0)))))) := by
          intro N
          induction N with
          | zero => intro v422 H423 hIH423 hJH423 e424 m425 bv422 q1 q2 hmL426; exact absurd hmL426 (Nat.not_lt_zero _)
          | succ N ihL426 =>
            intro v422 H423 hIH423 hJH423 e424 m425 bv422 q1 q2 hmL426
            refine g_iload_n rfl ?_
            refine g_aload_n rfl ?_
            refine g_invvi hIH423 sm_0 rfl rfl rfl rfl (s_180 H423 hIH423 hJH423) (fun v429 H427 r428 => ?_)
            obtain ⟨rfl, bv429, p430⟩ := r428
            have hm2 := congrArg Int32.toInt (m425.1 2 (by decide) 2)
            refine g_if2_ge (fun c431 => ?_) (fun c431 => ?_)
            · refine g_bipush (by decide) (fun v432 kv432 => ?_)
              exact g_iret ⟨_, rfl, hIH423, hJH423, (e424.symm.trans ek0_2), m425, (Or.inr ⟨by omega, Or.inr ⟨by omega, by rw [pk_e q1 (by omega)]; omega⟩⟩)⟩
            · refine g_iload_n rfl ?_
              refine g_iload_n rfl ?_
              refine g_if2_ne (fun c433 => ?_) (fun c433 => ?_)
              · refine g_aload_n rfl ?_
                refine g_iload_n rfl ?_
                refine g_iconst (by decide) (fun v434 kv434 => ?_)
                refine g_invvv hIH423 sm_0 rfl rfl rfl rfl (r_222 v422 (by omega) v434 (by omega) H423 hIH423 hJH423 (fun A t => hp0 A (tkQ_kp m425 t)) (hr_kp m425 hp1)) (fun H435 r436 => ?_)
                obtain ⟨hIH435, hJH435, w437, m438, p439⟩ := r436
                have e440 : k0_2 = fZ H435 0 2 := e424.trans w437.symm
                have m441 : kpM H H435 := kpM_t m425 m438
                obtain ⟨A442, ttA442, sbA442, G443, clG443, wdA442, wyA442, oiA442⟩ := p439
                have uA442 : tkQ H A442 := tkQ_kp m425 ttA442
                have scA442 := sb_kp m425 sbA442
                obtain ⟨dppA442, lapA442⟩ := (hp0 A442 uA442).2 G443 clG443 (cnM A442) (Nat.le_refl _)
                have sdA442 := sb_wo kv434 scA442
                refine g_aload_n rfl ?_
                refine g_gfr hIH435 sm_0 rfl ?_
                refine g_iload_n rfl ?_
                refine g_iaload hIH435 sm_20 rfl (by omega) (fun v444 ev444 lv444 uv444 => ?_)
                have yv444 : v444.toInt = w v422.toInt.toNat := wo_y uA442 sdA442 clG443 wyA442 (by omega) (by omega) (by rw [ev444]) (fun x hx ex => hp2 v422.toInt.toNat (by omega) A442 uA442 (fun q hq => by have z := sdA442 q hq; rw [show ((v422.toInt.toNat : Nat) : Int) = v422.toInt by omega]; exact z) G443 clG443 x hx ex)
                refine g_if_ne (fun c445 => ?_) (fun c445 => ?_)
                · refine g_iinc (l' := (fun v446 => [(0, .ref 0), (1, .int a1), (2, .int v446)])) rfl rfl (by decide) (by omega) (fun _ => rfl) (fun v446 ev446 => ?_)
                  refine g_goto ?_
                  exact ihL426 v446 H435 hIH435 (JM_n hJH435) e440 m441 (by omega) (pk_n q1 (by show ¬ (if ¬ ((v422.toInt.toNat : Nat) : Int) = a1.toInt ∧ w v422.toInt.toNat = 0 then (1 : Int) else 0) = 1; rw [if_neg (by omega)]; decide) (by omega) (by omega) (by omega)) (by omega) (by omega)
                · refine g_iload_n rfl ?_
                  exact g_iret ⟨_, rfl, hIH435, (JM_n hJH435), (e440.symm.trans ek0_2), m441, (Or.inr ⟨by omega, Or.inr ⟨by omega, by rw [← q1, pk_y (by show (if ¬ ((v422.toInt.toNat : Nat) : Int) = a1.toInt ∧ w v422.toInt.toNat = 0 then (1 : Int) else 0) = 1; rw [if_pos (by omega)]) (by omega) (by omega)]; omega⟩⟩)⟩
              · refine g_goto ?_
                refine g_iinc (l' := (fun v447 => [(0, .ref 0), (1, .int a1), (2, .int v447)])) rfl rfl (by decide) (by omega) (fun _ => rfl) (fun v447 ev447 => ?_)
                refine g_goto ?_
                exact ihL426 v447 H423 hIH423 hJH423 e424 m425 (by omega) (pk_n q1 (by show ¬ (if ¬ ((v422.toInt.toNat : Nat) : Int) = a1.toInt ∧ w v422.toInt.toNat = 0 then (1 : Int) else 0) = 1; rw [if_neg (by omega)]; decide) (by omega) (by omega) (by omega)) (by omega) (by omega)
        exact L426 _ v421 H412 hIH412 hJH412 e418 m419 (by omega) (by rw [show (aZ H 2 2).toInt.toNat - v421.toInt.toNat = (aZ H 2 2).toInt.toNat by omega, show v421.toInt.toNat = 0 by omega]) (by omega) (Nat.lt_succ_self _)
      · refine g_bipush (by decide) (fun v448 kv448 => ?_)
        exact g_iret ⟨_, rfl, hIH412, hJH412, (e418.symm.trans ek0_2), m419, (Or.inr ⟨by omega, Or.inl ⟨by omega, by omega⟩⟩)⟩
    · refine g_nop ?_
      refine g_iconst (by decide) (fun v449 kv449 => ?_)
      exact g_iret ⟨_, rfl, hIH402, hJH402, (e403.symm.trans ek0_2), m404, (Or.inl ⟨by omega, by omega⟩)⟩
