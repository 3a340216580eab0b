/-! THE REFERENCE WITHOUT ONE -/
theorem tkQ_o {H A : mzH} (h : ∀ k : Nat, (k : Int) < (aZ H 2 2).toInt → 0 ≤ (aZ H 2 (69 + 5 * k)).toInt ∧ (aZ H 2 (69 + 5 * k)).toInt ≤ 999) (t : tkW H A) : tkQ H A := ⟨t.1, t.2.1, fun q hq => by
  unfold hoM
  rw [(t.2.2 q hq).1]
  exact h q hq⟩
theorem od_mem {H A : mzH} {k : Nat} (e2 : ∀ i, aZ A 2 i = aZ H 2 i) (hk : (k : Int) < (aZ H 2 2).toInt) (hi : inM A k ≠ 0) : ∃ x, x < cnM A ∧ odM A x = k :=
  ((ord2_ok (I := inM A) (hr := hoM A) (aZ A 2 2).toInt.toNat).2 k).mpr ⟨by rw [e2]; omega, hi⟩
theorem ra_y {H A G B : mzH} {k v w0 : Int} (hp : ∀ x : Nat, x < cnM A → (odM A x : Int) = k → rvM A G x = w0) (u : tkW H A) (wy : ∀ x : Nat, x < cnM A → (aZ B 20 (odM A x)).toInt = rvM A G x) (hk : 0 ≤ k ∧ k < (aZ H 2 2).toInt) (e : v = (aZ B 20 k.toNat).toInt) : v = w0 := by
  obtain ⟨x, hx, ex⟩ := od_mem (k := k.toNat) u.2.1 (by omega) (by
    rw [show inM A k.toNat = 1 from (u.2.2 k.toNat (by omega)).2]
    decide)
  rw [e, ← hp x hx (by omega), ← wy x hx, ex]
theorem wo_y {H A G B : mzH} {k m v y : Int} (u : tkQ H A) (sd : ∀ q : Nat, (q : Int) < (aZ H 2 2).toInt → (inM A q ≠ 0 ↔ ¬ (q : Int) = m) ∧ hoM A q = (aZ H 2 (69 + 5 * q)).toInt) (_ : clR (rgM G) (mdM G)) (wy : ∀ x : Nat, x < cnM A → (aZ B 20 (odM A x)).toInt = rvM A G x) (hk : 0 ≤ k ∧ k < (aZ H 2 2).toInt) (hm : ¬ m = k) (e : v = (aZ B 20 k.toNat).toInt) (hp : ∀ x : Nat, x < cnM A → (odM A x : Int) = k → rvM A G x = y) : v = y := by
  obtain ⟨x, hx, ex⟩ := od_mem (k := k.toNat) u.2.1 (by omega) ((sd k.toNat (by omega)).1.mpr (by omega))
  rw [e, ← hp x hx (by omega), ← wy x hx, ex]
set_option maxRecDepth 4000 in
set_option maxHeartbeats 4000000 in
/-- M.isRefused -/
theorem r_229 {w0 : Int} (a1 : Int32) (ha1 : 0 ≤ a1.toInt ∧ a1.toInt ≤ 59) (H : mzH) (hI : gI SM H) (hJ : JN H) (hp0 : ((∀ A, tkW H A → gdM A))) (hp1 : (∀ A : mzH, tkW H A → ∀ G : mzH, clR (rgM G) (mdM G) → ∀ x : Nat, x < cnM A → (odM A x : Int) = a1.toInt → rvM A G x = w0)) (hp2 : (0 ≤ a1.toInt ∧ a1.toInt < (aZ H 2 2).toInt)) : gCall 229 [.ref 0, .int a1] H (gRi (fun v H' => gI SM H' ∧ JN H' ∧ (0 ≤ v.toInt ∧ v.toInt ≤ 1) ∧ fZ H' 0 2 = fZ H 0 2 ∧ kpM H H' ∧ ((v.toInt = 1 ∧ ¬ w0 = 0) ∨ (v.toInt = 0 ∧ w0 = 0)))) := by
  obtain ⟨k0_2, ek0_2⟩ : ∃ z, z = fZ H 0 2 := ⟨_, rfl⟩
  have ik0_2 : k0_2.toInt = (fZ H 0 2).toInt := by rw [← ek0_2]
  have bk0_2 : 0 ≤ k0_2.toInt ∧ k0_2.toInt ≤ 900 := by rw [ek0_2]; exact fZ_of hI sm_0 rfl
  have mkfr : kpM H H := kpM_r
  refine gG_call [(0, .ref 0), (1, .int a1)] ⟨rfl, rfl, trivial⟩ ?_
  show gG 2 zB_229 (mzBlk zB_229 0) [(0, .ref 0), (1, .int a1)] [] H 0 0 _
  refine g_aload_n rfl ?_
  refine g_invvv hI sm_0 rfl rfl rfl rfl (r_199 H hI hJ (fun A t => hp0 A (tk_kp mkfr t))) (fun H65 r66 => ?_)
  obtain ⟨hIH65, hJH65, w67, m68, m69, p70, p71⟩ := r66
  have e72 : k0_2 = fZ H65 0 2 := ek0_2.trans w67.symm
  have m73 : kpM H H65 := kpM_t mkfr m69
  obtain ⟨A74, tA74, G75, cG75, wdp76, wyp76, oip76⟩ := p71
  have uA74 : tkW H A74 := tk_kp mkfr tA74
  have hm2 := congrArg Int32.toInt (m73.1 2 (by decide) 2)
  refine g_aload_n rfl ?_
  refine g_gfr hIH65 sm_0 rfl ?_
  refine g_iload_n rfl ?_
  refine g_iaload hIH65 sm_20 rfl (by omega) (fun v77 ev77 lv77 uv77 => ?_)
  have yv77 : v77.toInt = w0 := ra_y (hp1 A74 uA74 G75 cG75) uA74 wyp76 hp2 (by rw [ev77])
  refine g_if_eq (fun c78 => ?_) (fun c78 => ?_)
  · refine g_iconst (by decide) (fun v79 kv79 => ?_)
    refine g_nop ?_
    exact g_zret (by omega) ⟨_, rfl, hIH65, (JM_n hJH65), (by omega), (e72.symm.trans ek0_2), m73, (by omega)⟩
  · refine g_iconst (by decide) (fun v80 kv80 => ?_)
    refine g_goto ?_
    exact g_zret (by omega) ⟨_, rfl, hIH65, (JM_n hJH65), (by omega), (e72.symm.trans ek0_2), m73, (by omega)⟩
set_option maxRecDepth 4000 in
set_option maxHeartbeats 4000000 in
/-- M.needs -/
theorem r_231 {w : Nat → Int} {w0 : Int} (a1 : Int32) (a2 : Int32) (H : mzH) (hI : gI SM H) (hJ : JN H) (hp0 : ((∀ A, tkQ H A → gdM A))) (hp1 : (∀ k : Nat, (k : Int) < (aZ H 2 2).toInt → 0 ≤ (aZ H 2 (69 + 5 * k)).toInt ∧ (aZ H 2 (69 + 5 * k)).toInt ≤ 999)) (hp2 : (∀ m : Nat, ¬ (m : Int) = a1.toInt → ∀ A : mzH, tkQ H A → (∀ q : Nat, (q : Int) < (aZ H 2 2).toInt → (inM A q ≠ 0 ↔ ¬ (q : Int) = (m : Int)) ∧ hoM A q = (aZ H 2 (69 + 5 * q)).toInt) → ∀ G : mzH, clR (rgM G) (mdM G) → ∀ x : Nat, x < cnM A → (odM A x : Int) = a1.toInt → rvM A G x = w m)) (hp3 : (∀ A : mzH, tkW H A → ∀ G : mzH, clR (rgM G) (mdM G) → ∀ x : Nat, x < cnM A → (odM A x : Int) = a1.toInt → rvM A G x = w0)) : gCall 231 [.ref 0, .int a1, .int a2] H (gRi (fun v H' => gI SM H' ∧ JN H' ∧ fZ H' 0 2 = fZ H 0 2 ∧ kpM H H' ∧ ((v.toInt = -1 ∧ ¬ ((0 ≤ a1.toInt ∧ a1.toInt < (aZ H 2 2).toInt) ∧ 0 ≤ a2.toInt)) ∨ (((0 ≤ a1.toInt ∧ a1.toInt < (aZ H 2 2).toInt) ∧ 0 ≤ a2.toInt) ∧ ((¬ w0 = 0 ∧ v.toInt = -3) ∨ (w0 = 0 ∧ v.toInt = pkF (fun m : Nat => if ¬ (m : Int) = a1.toInt ∧ ¬ w m = 0 then (1 : Int) else 0) (aZ H 2 2).toInt.toNat 0 a2.toInt)))))) := by
  obtain ⟨k0_2, ek0_2⟩ : ∃ z, z = fZ H 0 2 := ⟨_, rfl⟩
  have ik0_2 : k0_2.toInt = (fZ H 0 2).toInt := by rw [← ek0_2]
  have bk0_2 : 0 ≤ k0_2.toInt ∧ k0_2.toInt ≤ 900 := by rw [ek0_2]; exact fZ_of hI sm_0 rfl
  have mkfr : kpM H H := kpM_r
  refine gG_call [(0, .ref 0), (1, .int a1), (2, .int a2)] ⟨rfl, rfl, rfl, trivial⟩ ?_
  show gG 5 zB_231 (mzBlk zB_231 0) [(0, .ref 0), (1, .int a1), (2, .int a2)] [] H 0 0 _
  refine g_aload_n rfl ?_
  refine g_iconst (by decide) (fun v479 kv479 => ?_)
  refine g_pfi hI sm_0 rfl (gz_any _) (fun H480 eH480 hIH480 => ?_)
  have hJH480 : JN H480 := JN_sF eH480 hJ
  have e481 : k0_2 = fZ H480 0 2 := by rw [eH480, fZ_sF_ne (by decide)]; exact ek0_2
  have m482 : kpM H H480 := kpM_F mkfr eH480 (by omega)
  refine g_iload_n rfl ?_
  refine g_if_lt (fun c483 => ?_) (fun c483 => ?_)
  · refine g_iconst (by decide) (fun v484 kv484 => ?_)
    exact g_iret ⟨_, rfl, hIH480, hJH480, (e481.symm.trans ek0_2), m482, (Or.inl ⟨by omega, by omega⟩)⟩
  · refine g_iload_n rfl ?_
    refine g_aload_n rfl ?_
    refine g_invvi hIH480 sm_0 rfl rfl rfl rfl (s_180 H480 hIH480 hJH480) (fun v487 H485 r486 => ?_)
    obtain ⟨rfl, bv487, p488⟩ := r486
    have hm2 := congrArg Int32.toInt (m482.1 2 (by decide) 2)
    refine g_if2_ge (fun c489 => ?_) (fun c489 => ?_)
    · refine g_iconst (by decide) (fun v490 kv490 => ?_)
      exact g_iret ⟨_, rfl, hIH480, hJH480, (e481.symm.trans ek0_2), m482, (Or.inl ⟨by omega, by omega⟩)⟩
    · refine g_iload_n rfl ?_
      refine g_if_ge (fun c491 => ?_) (fun c491 => ?_)
      · refine g_aload_n rfl ?_
        refine g_iload_n rfl ?_
        refine g_invvi hIH480 sm_0 rfl rfl rfl rfl (r_229 a1 (by omega) H480 hIH480 hJH480 (fun A t => hp0 A (tkQ_o hp1 (tk_kp m482 t))) (fun A t => hp3 A (tk_kp m482 t)) (by rw [m482.1 2 (by decide)]; omega)) (fun v494 H492 r493 => ?_)
        obtain ⟨hIH492, hJH492, bv494, w495, m496, p497⟩ := r493
        have e498 : k0_2 = fZ H492 0 2 := e481.trans w495.symm
        have m499 : kpM H H492 := kpM_t m482 m496
        refine g_if_eq (fun c500 => ?_) (fun c500 => ?_)
        · refine g_iload_n rfl ?_
          refine g_istore_n (l' := [(0, .ref 0), (1, .int a1), (2, .int a2), (3, .int a2)]) rfl rfl ?_
          refine g_iconst (by decide) (fun v501 kv501 => ?_)
          refine g_istore (l' := [(0, .ref 0), (1, .int a1), (2, .int a2), (3, .int a2), (4, .int v501)]) rfl rfl ?_
          refine g_nop ?_
          have L507 : ∀ (N : Nat) (v502 : Int32) (v503 : Int32) (H504 : mzH), gI SM H504 → JN H504 → k0_2 = fZ H504 0 2 → kpM H H504 → (0 ≤ v502.toInt ∧ v502.toInt ≤ 2147483647) → (0 ≤ v503.toInt ∧ v503.toInt ≤ 60) → pkF (fun m : Nat => if ¬ (m : Int) = a1.toInt ∧ ¬ w m = 0 then (1 : Int) else 0) ((aZ H 2 2).toInt.toNat - v503.toInt.toNat) v503.toInt.toNat v502.toInt = pkF (fun m : Nat => if ¬ (m : Int) = a1.toInt ∧ ¬ w m = 0 then (1 : Int) else 0) (aZ H 2 2).toInt.toNat 0 a2.toInt → (v503.toInt ≤ 0 ∨ v503.toInt ≤ (aZ H 2 2).toInt) → (0 ≤ v502.toInt) → (60 - v503.toInt).toNat < N → gG 5 zB_231 (mzBlk zB_231 4) [(0, .ref 0), (1, .int a1), (2, .int a2), (3, .int v502), (4, .int v503)] [] H504 0 0 (gRi (fun v H' => gI SM H' ∧ JN H' ∧ fZ H' 0 2 = fZ H 0 2 ∧ kpM H H' ∧ ((v.toInt = -1 ∧ ¬ ((0 ≤ a1.toInt ∧ a1.toInt < (aZ H 2 2).toInt) ∧ 0 ≤ a2.toInt)) ∨ (((0 ≤ a1.toInt ∧ a1.toInt < (aZ H 2 2).toInt) ∧ 0 ≤ a2.toInt) ∧ ((¬ w0 = 0 ∧ v.toInt = -3) ∨ (w0 = 0 ∧ v.toInt = pkF (fun m : Nat => if ¬ (m : Int) = a1.toInt ∧ ¬ w m = 0 then (1 : Int) else 0) (aZ H 2 2).toInt.toNat 0 a2.toInt)))))) := by
            intro N
            induction N with
            | zero => intro v502 v503 H504 hIH504 hJH504 e505 m506 bv502 bv503 q1 q2 q3 hmL507; exact absurd hmL507 (Nat.not_lt_zero _)
            | succ N ihL507 =>
              intro v502 v503 H504 hIH504 hJH504 e505 m506 bv502 bv503 q1 q2 q3 hmL507
              refine g_iload rfl ?_
              refine g_aload_n rfl ?_
              refine g_invvi hIH504 sm_0 rfl rfl rfl rfl (s_180 H504 hIH504 hJH504) (fun v510 H508 r509 => ?_)
              obtain ⟨rfl, bv510, p511⟩ := r509
              have hm2 := congrArg Int32.toInt (m506.1 2 (by decide) 2)
              refine g_if2_ge (fun c512 => ?_) (fun c512 => ?_)
              · refine g_bipush (by decide) (fun v513 kv513 => ?_)
                exact g_iret ⟨_, rfl, hIH504, hJH504, (e505.symm.trans ek0_2), m506, (Or.inr ⟨by omega, Or.inr ⟨by omega, by rw [pk_e q1 (by omega)]; omega⟩⟩)⟩
              · refine g_iload rfl ?_
                refine g_iload_n rfl ?_
                refine g_if2_ne (fun c514 => ?_) (fun c514 => ?_)
                · refine g_aload_n rfl ?_
                  refine g_iload rfl ?_
                  refine g_iconst (by decide) (fun v515 kv515 => ?_)
                  refine g_invvv hIH504 sm_0 rfl rfl rfl rfl (r_222 v503 (by omega) v515 (by omega) H504 hIH504 hJH504 (fun A t => hp0 A (tkQ_kp m506 t)) (hr_kp m506 hp1)) (fun H516 r517 => ?_)
                  obtain ⟨hIH516, hJH516, w518, m519, p520⟩ := r517
                  have e521 : k0_2 = fZ H516 0 2 := e505.trans w518.symm
                  have m522 : kpM H H516 := kpM_t m506 m519
                  obtain ⟨A523, ttA523, sbA523, G524, clG524, wdA523, wyA523, oiA523⟩ := p520
                  have uA523 : tkQ H A523 := tkQ_kp m506 ttA523
                  have scA523 := sb_kp m506 sbA523
                  obtain ⟨dppA523, lapA523⟩ := (hp0 A523 uA523).2 G524 clG524 (cnM A523) (Nat.le_refl _)
                  have sdA523 := sb_wo kv515 scA523
                  refine g_aload_n rfl ?_
                  refine g_gfr hIH516 sm_0 rfl ?_
                  refine g_iload_n rfl ?_
                  refine g_iaload hIH516 sm_20 rfl (by omega) (fun v525 ev525 lv525 uv525 => ?_)
                  have yv525 : v525.toInt = w v503.toInt.toNat := wo_y uA523 sdA523 clG524 wyA523 (by omega) (by omega) (by rw [ev525]) (fun x hx ex => hp2 v503.toInt.toNat (by omega) A523 uA523 (fun q hq => by have z := sdA523 q hq; rw [show ((v503.toInt.toNat : Nat) : Int) = v503.toInt by omega]; exact z) G524 clG524 x hx ex)
                  refine g_if_ne (fun c526 => ?_) (fun c526 => ?_)
                  · refine g_iload_n rfl ?_
                    refine g_if_ne (fun c527 => ?_) (fun c527 => ?_)
                    · refine g_iinc (l' := (fun v528 => [(0, .ref 0), (1, .int a1), (2, .int a2), (3, .int v528), (4, .int v503)])) rfl rfl (by decide) (by have := gz_any v502; omega) (fun _ => rfl) (fun v528 ev528 => ?_)
                      refine g_nop ?_
                      refine g_iinc (l' := (fun v529 => [(0, .ref 0), (1, .int a1), (2, .int a2), (3, .int v528), (4, .int v529)])) rfl rfl (by decide) (by omega) (fun _ => rfl) (fun v529 ev529 => ?_)
                      refine g_goto ?_
                      exact ihL507 v528 v529 H516 hIH516 (JM_n hJH516) e521 m522 (by have := gz_any v528; omega) (by omega) (pk_s q1 (by show (if ¬ ((v503.toInt.toNat : Nat) : Int) = a1.toInt ∧ ¬ w v503.toInt.toNat = 0 then (1 : Int) else 0) = 1; rw [if_pos (by omega)]) (by omega) (by omega) (by omega) (by omega)) (by omega) (by omega) (by omega)
                    · refine g_iload rfl ?_
                      exact g_iret ⟨_, rfl, hIH516, (JM_n hJH516), (e521.symm.trans ek0_2), m522, (Or.inr ⟨by omega, Or.inr ⟨by omega, by rw [← q1, pk_y (by show (if ¬ ((v503.toInt.toNat : Nat) : Int) = a1.toInt ∧ ¬ w v503.toInt.toNat = 0 then (1 : Int) else 0) = 1; rw [if_pos (by omega)]) (by omega) (by omega)]; omega⟩⟩)⟩
                  · refine g_goto ?_
                    refine g_iinc (l' := (fun v530 => [(0, .ref 0), (1, .int a1), (2, .int a2), (3, .int v502), (4, .int v530)])) rfl rfl (by decide) (by omega) (fun _ => rfl) (fun v530 ev530 => ?_)
                    refine g_goto ?_
                    exact ihL507 v502 v530 H516 hIH516 (JM_n hJH516) e521 m522 (by have := gz_any v502; omega) (by omega) (pk_n q1 (by show ¬ (if ¬ ((v503.toInt.toNat : Nat) : Int) = a1.toInt ∧ ¬ w v503.toInt.toNat = 0 then (1 : Int) else 0) = 1; rw [if_neg (by omega)]; decide) (by omega) (by omega) (by omega)) (by omega) (by omega) (by omega)
                · refine g_goto ?_
                  refine g_iinc (l' := (fun v531 => [(0, .ref 0), (1, .int a1), (2, .int a2), (3, .int v502), (4, .int v531)])) rfl rfl (by decide) (by omega) (fun _ => rfl) (fun v531 ev531 => ?_)
                  refine g_goto ?_
                  exact ihL507 v502 v531 H504 hIH504 hJH504 e505 m506 (by have := gz_any v502; omega) (by omega) (pk_n q1 (by show ¬ (if ¬ ((v503.toInt.toNat : Nat) : Int) = a1.toInt ∧ ¬ w v503.toInt.toNat = 0 then (1 : Int) else 0) = 1; rw [if_neg (by omega)]; decide) (by omega) (by omega) (by omega)) (by omega) (by omega) (by omega)
          exact L507 _ a2 v501 H492 hIH492 hJH492 e498 m499 (by have := gz_any a2; omega) (by omega) (by rw [show (aZ H 2 2).toInt.toNat - v501.toInt.toNat = (aZ H 2 2).toInt.toNat by omega, show v501.toInt.toNat = 0 by omega]) (by omega) (by omega) (Nat.lt_succ_self _)
        · refine g_bipush (by decide) (fun v532 kv532 => ?_)
          exact g_iret ⟨_, rfl, hIH492, hJH492, (e498.symm.trans ek0_2), m499, (Or.inr ⟨by omega, Or.inl ⟨by omega, by omega⟩⟩)⟩
      · refine g_nop ?_
        refine g_iconst (by decide) (fun v533 kv533 => ?_)
        exact g_iret ⟨_, rfl, hIH480, hJH480, (e481.symm.trans ek0_2), m482, (Or.inl ⟨by omega, by omega⟩)⟩
