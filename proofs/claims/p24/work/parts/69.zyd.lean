theorem mxm_kp {H A : mzH} (fr : kpM H A) : mxF (fun k => (aZ A 2 (69 + 5 * k)).toInt) (aZ A 2 2).toInt.toNat = mxF (fun k => (aZ H 2 (69 + 5 * k)).toInt) (aZ H 2 2).toInt.toNat := by
  rw [fr.1 2 (by decide)]
  exact mx_cg _ (fun k _ => by rw [fr.1 2 (by decide)])
theorem dt_0 {t : Nat × (Nat → Int) × (Nat → Int) × Int} {a L x : Int} {k : Nat} (e : k = 0) (h : x = 0) : x = dwT t a L k := by
  subst e
  exact h
theorem dt_y {t : Nat × (Nat → Int) × (Nat → Int) × Int} {a L x x2 : Int} {k k2 : Nat} (q : x = dwT t a L k) (e : k2 = k + 1) (h : x2 = x + ((if k + 1 < t.1 then t.2.2.1 (k + 1) else L) - t.2.2.1 k)) (c : t.2.1 k = a) : x2 = dwT t a L k2 := by
  subst e
  show x2 = dwT t a L k + _
  rw [if_pos c, ← q, h]
theorem dt_n {t : Nat × (Nat → Int) × (Nat → Int) × Int} {a L x x2 : Int} {k k2 : Nat} (q : x = dwT t a L k) (e : k2 = k + 1) (h : x2 = x) (c : ¬ t.2.1 k = a) : x2 = dwT t a L k2 := by
  subst e
  show x2 = dwT t a L k + _
  rw [if_neg c, ← q, h, Int.add_zero]
set_option maxRecDepth 4000 in
set_option maxHeartbeats 4000000 in
/-- M.latest -/
theorem r_216 (H : mzH) (hI : gI SM H) (hJ : JN H) : gCall 216 [.ref 0] H (gRi (fun v H' => H = H' ∧ v.toInt = mxF (fun k => (aZ H 2 (69 + 5 * k)).toInt) (aZ H 2 2).toInt.toNat)) := by
  refine gG_call [(0, .ref 0)] ⟨rfl, trivial⟩ ?_
  show gG 3 zB_216 (mzBlk zB_216 0) [(0, .ref 0)] [] H 0 0 _
  refine g_iconst (by decide) (fun v289 kv289 => ?_)
  refine g_istore_n (l' := [(0, .ref 0), (1, .int v289)]) rfl rfl ?_
  refine g_iconst (by decide) (fun v290 kv290 => ?_)
  refine g_istore_n (l' := [(0, .ref 0), (1, .int v289), (2, .int v290)]) rfl rfl ?_
  refine g_nop ?_
  have L293 : ∀ (N : Nat) (v291 : Int32) (v292 : Int32), (0 ≤ v292.toInt ∧ v292.toInt ≤ 60) → v291.toInt = mxF (fun k => (aZ H 2 (69 + 5 * k)).toInt) v292.toInt.toNat → (v292.toInt ≤ 0 ∨ v292.toInt ≤ (aZ H 2 2).toInt) → (60 - v292.toInt).toNat < N → gG 3 zB_216 (mzBlk zB_216 1) [(0, .ref 0), (1, .int v291), (2, .int v292)] [] H 0 0 (gRi (fun v H' => H = H' ∧ v.toInt = mxF (fun k => (aZ H 2 (69 + 5 * k)).toInt) (aZ H 2 2).toInt.toNat)) := by
    intro N
    induction N with
    | zero => intro v291 v292 bv292 q1 q2 hmL293; exact absurd hmL293 (Nat.not_lt_zero _)
    | succ N ihL293 =>
      intro v291 v292 bv292 q1 q2 hmL293
      refine g_iload_n rfl ?_
      refine g_aload_n rfl ?_
      refine g_invvi hI sm_0 rfl rfl rfl rfl (s_180 H hI hJ) (fun v296 H294 r295 => ?_)
      obtain ⟨rfl, bv296, p297⟩ := r295
      refine g_if2_ge (fun c298 => ?_) (fun c298 => ?_)
      · refine g_iload_n rfl ?_
        exact g_iret ⟨_, rfl, rfl, (by rw [show (aZ H 2 2).toInt.toNat = v292.toInt.toNat by omega]; exact q1)⟩
      · refine g_aload_n rfl ?_
        refine g_iload_n rfl ?_
        refine g_iconst (by decide) (fun v299 kv299 => ?_)
        refine g_invvi hI sm_0 rfl rfl rfl rfl (s_181 v292 (by omega) v299 (by omega) H hI hJ) (fun v302 H300 r301 => ?_)
        obtain ⟨rfl, p303⟩ := r301
        have tv302 : v302.toInt = (aZ H 2 (69 + 5 * v292.toInt.toNat)).toInt := by rw [p303, kv299, show (69 + 5 * v292.toInt + 0).toNat = 69 + 5 * v292.toInt.toNat by omega]
        refine g_iload_n rfl ?_
        refine g_if2_le (fun c304 => ?_) (fun c304 => ?_)
        · refine g_iload_n rfl ?_
          refine g_nop ?_
          refine g_istore_n (l' := [(0, .ref 0), (1, .int v291), (2, .int v292)]) rfl rfl ?_
          refine g_iinc (l' := (fun v305 => [(0, .ref 0), (1, .int v291), (2, .int v305)])) rfl rfl (by decide) (by omega) (fun _ => rfl) (fun v305 ev305 => ?_)
          refine g_goto ?_
          exact ihL293 v291 v305 (by omega) (mx_s q1 (by omega) (by show (_ < (aZ H 2 (69 + 5 * v292.toInt.toNat)).toInt ∧ _ = (aZ H 2 (69 + 5 * v292.toInt.toNat)).toInt) ∨ ((aZ H 2 (69 + 5 * v292.toInt.toNat)).toInt ≤ _ ∧ _ = _); omega)) (by omega) (by omega)
        · refine g_aload_n rfl ?_
          refine g_iload_n rfl ?_
          refine g_iconst (by decide) (fun v306 kv306 => ?_)
          refine g_invvi hI sm_0 rfl rfl rfl rfl (s_181 v292 (by omega) v306 (by omega) H hI hJ) (fun v309 H307 r308 => ?_)
          obtain ⟨rfl, p310⟩ := r308
          have tv309 : v309.toInt = (aZ H 2 (69 + 5 * v292.toInt.toNat)).toInt := by rw [p310, kv306, show (69 + 5 * v292.toInt + 0).toNat = 69 + 5 * v292.toInt.toNat by omega]
          refine g_goto ?_
          refine g_istore_n (l' := [(0, .ref 0), (1, .int v309), (2, .int v292)]) rfl rfl ?_
          refine g_iinc (l' := (fun v311 => [(0, .ref 0), (1, .int v309), (2, .int v311)])) rfl rfl (by decide) (by omega) (fun _ => rfl) (fun v311 ev311 => ?_)
          refine g_goto ?_
          exact ihL293 v309 v311 (by omega) (mx_s q1 (by omega) (by show (_ < (aZ H 2 (69 + 5 * v292.toInt.toNat)).toInt ∧ _ = (aZ H 2 (69 + 5 * v292.toInt.toNat)).toInt) ∨ ((aZ H 2 (69 + 5 * v292.toInt.toNat)).toInt ≤ _ ∧ _ = _); omega)) (by omega) (by omega)
  exact L293 _ v289 v290 (by omega) (mx_0 (by omega) (by omega)) (by omega) (Nat.lt_succ_self _)
set_option maxRecDepth 4000 in
set_option maxHeartbeats 4000000 in
/-- M.dwelt -/
theorem r_217 (a1 : Int32) (a2 : Int32) (H : mzH) (hI : gI SM H) (hJ : JN H) (hp0 : ((∀ A, tkW H A → gdM A))) (hp1 : (∀ k : Nat, (k : Int) < (aZ H 2 2).toInt → 0 ≤ (aZ H 2 (69 + 5 * k)).toInt ∧ (aZ H 2 (69 + 5 * k)).toInt ≤ 999)) : gCall 217 [.ref 0, .int a1, .int a2] H (gRi (fun v H' => gI SM H' ∧ JN H' ∧ fZ H' 0 2 = fZ H 0 2 ∧ kpM H H' ∧ ((v.toInt = -1 ∧ ¬ ((0 ≤ a1.toInt ∧ a1.toInt ≤ 39) ∧ (a2.toInt = -3 ∨ (0 ≤ a2.toInt ∧ a2.toInt < (aZ H 2 0).toInt)))) ∨ (((0 ≤ a1.toInt ∧ a1.toInt ≤ 39) ∧ (a2.toInt = -3 ∨ (0 ≤ a2.toInt ∧ a2.toInt < (aZ H 2 0).toInt))) ∧ (∃ A : mzH, tkW H A ∧ ∃ G : mzH, clR (rgM G) (mdM G) ∧ v.toInt = dwT (trS (fun q => whM (fM A G (q + 1)).1 (fM A G (q + 1)).2 a1.toInt.toNat) (hqM A) (cnM A)) a2.toInt (mxF (fun k => (aZ H 2 (69 + 5 * k)).toInt) (aZ H 2 2).toInt.toNat) (trS (fun q => whM (fM A G (q + 1)).1 (fM A G (q + 1)).2 a1.toInt.toNat) (hqM A) (cnM A)).1))))) := by
  obtain ⟨k0_2, ek0_2⟩ : ∃ z, z = fZ H 0 2 := ⟨_, rfl⟩
  have ik0_2 : k0_2.toInt = (fZ H 0 2).toInt := by rw [← ek0_2]
  have bk0_2 : 0 ≤ k0_2.toInt ∧ k0_2.toInt ≤ 900 := by rw [ek0_2]; exact fZ_of hI sm_0 rfl
  have mkfr : kpM H H := kpM_r
  refine gG_call [(0, .ref 0), (1, .int a1), (2, .int a2)] ⟨rfl, rfl, rfl, trivial⟩ ?_
  show gG 5 zB_217 (mzBlk zB_217 0) [(0, .ref 0), (1, .int a1), (2, .int a2)] [] H 0 0 _
  refine g_aload_n rfl ?_
  refine g_iconst (by decide) (fun v557 kv557 => ?_)
  refine g_pfi hI sm_0 rfl (gz_any _) (fun H558 eH558 hIH558 => ?_)
  have hJH558 : JN H558 := JN_sF eH558 hJ
  have e559 : k0_2 = fZ H558 0 2 := by rw [eH558, fZ_sF_ne (by decide)]; exact ek0_2
  have m560 : kpM H H558 := kpM_F mkfr eH558 (by omega)
  refine g_iload_n rfl ?_
  refine g_invti rfl rfl rfl (r_205 a1 H558 hIH558 hJH558) (fun v563 H561 r562 => ?_)
  obtain ⟨rfl, bv563, p564⟩ := r562
  refine g_if_eq (fun c565 => ?_) (fun c565 => ?_)
  · refine g_iconst (by decide) (fun v566 kv566 => ?_)
    exact g_iret ⟨_, rfl, hIH558, hJH558, (e559.symm.trans ek0_2), m560, (Or.inl ⟨by omega, by omega⟩)⟩
  · refine g_aload_n rfl ?_
    refine g_iload_n rfl ?_
    refine g_invvi hIH558 sm_0 rfl rfl rfl rfl (r_210 a2 H558 hIH558 hJH558) (fun v569 H567 r568 => ?_)
    obtain ⟨rfl, bv569, p570, p571⟩ := r568
    rw [m560.1 2 (by decide)] at p570
    refine g_if_ne (fun c572 => ?_) (fun c572 => ?_)
    · refine g_aload_n rfl ?_
      refine g_iload_n rfl ?_
      refine g_invvv hIH558 sm_0 rfl rfl rfl rfl (r_214 a1 (by omega) H558 hIH558 hJH558 (fun A t => hp0 A (tk_kp m560 t))) (fun H573 r574 => ?_)
      obtain ⟨hIH573, hJH573, w575, m576, p577⟩ := r574
      have e578 : k0_2 = fZ H573 0 2 := e559.trans w575.symm
      have m579 : kpM H H573 := kpM_t m560 m576
      obtain ⟨A580, ttA580, G581, cG581, tnG581, taG581⟩ := p577
      have uA580 : tkW H A580 := tk_kp m560 ttA580
      refine g_iconst (by decide) (fun v582 kv582 => ?_)
      refine g_istore_n (l' := [(0, .ref 0), (1, .int a1), (2, .int a2), (3, .int v582)]) rfl rfl ?_
      refine g_iconst (by decide) (fun v583 kv583 => ?_)
      refine g_istore (l' := [(0, .ref 0), (1, .int a1), (2, .int a2), (3, .int v582), (4, .int v583)]) rfl rfl ?_
      refine g_nop ?_
      have L586 : ∀ (N : Nat) (v584 : Int32) (v585 : Int32), (-60939 ≤ v584.toInt ∧ v584.toInt ≤ 60939) → (0 ≤ v585.toInt ∧ v585.toInt ≤ 60) → v584.toInt = dwT (trS (fun q => whM (fM A580 G581 (q + 1)).1 (fM A580 G581 (q + 1)).2 a1.toInt.toNat) (hqM A580) (cnM A580)) a2.toInt (mxF (fun k => (aZ H 2 (69 + 5 * k)).toInt) (aZ H 2 2).toInt.toNat) v585.toInt.toNat → (-(999 * v585.toInt) ≤ v584.toInt ∧ v584.toInt ≤ 999 * v585.toInt) → (v585.toInt : Int) ≤ ((trS (fun q => whM (fM A580 G581 (q + 1)).1 (fM A580 G581 (q + 1)).2 a1.toInt.toNat) (hqM A580) (cnM A580)).1 : Int) → (60 - v585.toInt).toNat < N → gG 5 zB_217 (mzBlk zB_217 3) [(0, .ref 0), (1, .int a1), (2, .int a2), (3, .int v584), (4, .int v585)] [] H573 0 0 (gRi (fun v H' => gI SM H' ∧ JN H' ∧ fZ H' 0 2 = fZ H 0 2 ∧ kpM H H' ∧ ((v.toInt = -1 ∧ ¬ ((0 ≤ a1.toInt ∧ a1.toInt ≤ 39) ∧ (a2.toInt = -3 ∨ (0 ≤ a2.toInt ∧ a2.toInt < (aZ H 2 0).toInt)))) ∨ (((0 ≤ a1.toInt ∧ a1.toInt ≤ 39) ∧ (a2.toInt = -3 ∨ (0 ≤ a2.toInt ∧ a2.toInt < (aZ H 2 0).toInt))) ∧ (∃ A : mzH, tkW H A ∧ ∃ G : mzH, clR (rgM G) (mdM G) ∧ v.toInt = dwT (trS (fun q => whM (fM A G (q + 1)).1 (fM A G (q + 1)).2 a1.toInt.toNat) (hqM A) (cnM A)) a2.toInt (mxF (fun k => (aZ H 2 (69 + 5 * k)).toInt) (aZ H 2 2).toInt.toNat) (trS (fun q => whM (fM A G (q + 1)).1 (fM A G (q + 1)).2 a1.toInt.toNat) (hqM A) (cnM A)).1))))) := by
        intro N
        induction N with
        | zero => intro v584 v585 bv584 bv585 q1 q2 q3 hmL586; exact absurd hmL586 (Nat.not_lt_zero _)
        | succ N ihL586 =>
          intro v584 v585 bv584 bv585 q1 q2 q3 hmL586
          refine g_iload rfl ?_
          refine g_aload_n rfl ?_
          refine g_gfi hIH573 sm_0 rfl (fun v587 ev587 lv587 uv587 => ?_)
          have zv587 : v587.toInt = (fZ H573 0 39).toInt := by rw [ev587]
          refine g_if2_ge (fun c588 => ?_) (fun c588 => ?_)
          · refine g_iload_n rfl ?_
            exact g_iret ⟨_, rfl, hIH573, (JM_n hJH573), (e578.symm.trans ek0_2), m579, (Or.inr ⟨by omega, ⟨A580, uA580, G581, cG581,  by rw [show (trS (fun q => whM (fM A580 G581 (q + 1)).1 (fM A580 G581 (q + 1)).2 a1.toInt.toNat) (hqM A580) (cnM A580)).1 = v585.toInt.toNat by omega]; exact q1⟩⟩)⟩
          · refine g_aload_n rfl ?_
            refine g_gfr hIH573 sm_0 rfl ?_
            refine g_iload rfl ?_
            refine g_iaload hIH573 sm_22 rfl (by omega) (fun v589 ev589 lv589 uv589 => ?_)
            have yv589 : v589.toInt = (trS (fun q => whM (fM A580 G581 (q + 1)).1 (fM A580 G581 (q + 1)).2 a1.toInt.toNat) (hqM A580) (cnM A580)).2.1 v585.toInt.toNat := by rw [ev589]; exact (taG581 v585.toInt.toNat (by omega)).1
            refine g_iload_n rfl ?_
            refine g_if2_ne (fun c590 => ?_) (fun c590 => ?_)
            · refine g_iinc (l' := (fun v591 => [(0, .ref 0), (1, .int a1), (2, .int a2), (3, .int v584), (4, .int v591)])) rfl rfl (by decide) (by omega) (fun _ => rfl) (fun v591 ev591 => ?_)
              refine g_goto ?_
              exact ihL586 v584 v591 (by omega) (by omega) (dt_n q1 (by omega) (by omega) (by omega)) (by omega) (by omega) (by omega)
            · refine g_iload_n rfl ?_
              refine g_iload rfl ?_
              refine g_iconst (by decide) (fun v592 kv592 => ?_)
              refine g_iadd (by omega) (fun v593 ev593 => ?_)
              refine g_aload_n rfl ?_
              refine g_gfi hIH573 sm_0 rfl (fun v594 ev594 lv594 uv594 => ?_)
              have zv594 : v594.toInt = (fZ H573 0 39).toInt := by rw [ev594]
              refine g_if2_ge (fun c595 => ?_) (fun c595 => ?_)
              · refine g_aload_n rfl ?_
                refine g_invvi hIH573 sm_0 rfl rfl rfl rfl (r_216 H573 hIH573 (JM_n hJH573)) (fun v598 H596 r597 => ?_)
                obtain ⟨rfl, p599⟩ := r597
                have ltv598 : v598.toInt = mxF (fun k => (aZ H 2 (69 + 5 * k)).toInt) (aZ H 2 2).toInt.toNat := by rw [p599, mxm_kp m579]
                have lbv598 := mx_b (f := fun k => (aZ H 2 (69 + 5 * k)).toInt) (aZ H 2 2).toInt.toNat (fun k hk => hp1 k (by omega))
                refine g_nop ?_
                refine g_aload_n rfl ?_
                refine g_gfr hIH573 sm_0 rfl ?_
                refine g_iload rfl ?_
                refine g_iaload hIH573 sm_23 rfl (by omega) (fun v600 ev600 lv600 uv600 => ?_)
                have yv600 : v600.toInt = (trS (fun q => whM (fM A580 G581 (q + 1)).1 (fM A580 G581 (q + 1)).2 a1.toInt.toNat) (hqM A580) (cnM A580)).2.2.1 v585.toInt.toNat := by rw [ev600]; exact (taG581 v585.toInt.toNat (by omega)).2
                have hbv600 := tr_b (wh := fun q => whM (fM A580 G581 (q + 1)).1 (fM A580 G581 (q + 1)).2 a1.toInt.toNat) (hr := hqM A580) (cnM A580) (hp0 A580 uA580).1 v585.toInt.toNat (by omega)
                refine g_isub' (fun v601 ov601 => ?_)
                have sv601 : v601.toInt = v598.toInt - v600.toInt := gz_sub_of ov601 (by omega)
                refine g_iadd' (fun v602 ov602 => ?_)
                have sv602 : v602.toInt = v584.toInt + v601.toInt := gz_add_of ov602 (by omega)
                refine g_istore_n (l' := [(0, .ref 0), (1, .int a1), (2, .int a2), (3, .int v602), (4, .int v585)]) rfl rfl ?_
                refine g_nop ?_
                refine g_iinc (l' := (fun v603 => [(0, .ref 0), (1, .int a1), (2, .int a2), (3, .int v602), (4, .int v603)])) rfl rfl (by decide) (by omega) (fun _ => rfl) (fun v603 ev603 => ?_)
                refine g_goto ?_
                exact ihL586 v602 v603 (by omega) (by omega) (dt_y q1 (by omega) (by first | (rw [if_pos (by omega)]; omega) | (rw [if_neg (by omega)]; omega)) (by omega)) (by omega) (by omega) (by omega)
              · refine g_aload_n rfl ?_
                refine g_gfr hIH573 sm_0 rfl ?_
                refine g_iload rfl ?_
                refine g_iconst (by decide) (fun v604 kv604 => ?_)
                refine g_iadd (by omega) (fun v605 ev605 => ?_)
                refine g_iaload hIH573 sm_23 rfl (by omega) (fun v606 ev606 lv606 uv606 => ?_)
                have yv606 : v606.toInt = (trS (fun q => whM (fM A580 G581 (q + 1)).1 (fM A580 G581 (q + 1)).2 a1.toInt.toNat) (hqM A580) (cnM A580)).2.2.1 v605.toInt.toNat := by rw [ev606]; exact (taG581 v605.toInt.toNat (by omega)).2
                have hbv606 := tr_b (wh := fun q => whM (fM A580 G581 (q + 1)).1 (fM A580 G581 (q + 1)).2 a1.toInt.toNat) (hr := hqM A580) (cnM A580) (hp0 A580 uA580).1 v605.toInt.toNat (by omega)
                rw [show v605.toInt.toNat = v585.toInt.toNat + 1 by omega] at yv606 hbv606
                refine g_goto ?_
                refine g_aload_n rfl ?_
                refine g_gfr hIH573 sm_0 rfl ?_
                refine g_iload rfl ?_
                refine g_iaload hIH573 sm_23 rfl (by omega) (fun v607 ev607 lv607 uv607 => ?_)
                have yv607 : v607.toInt = (trS (fun q => whM (fM A580 G581 (q + 1)).1 (fM A580 G581 (q + 1)).2 a1.toInt.toNat) (hqM A580) (cnM A580)).2.2.1 v585.toInt.toNat := by rw [ev607]; exact (taG581 v585.toInt.toNat (by omega)).2
                have hbv607 := tr_b (wh := fun q => whM (fM A580 G581 (q + 1)).1 (fM A580 G581 (q + 1)).2 a1.toInt.toNat) (hr := hqM A580) (cnM A580) (hp0 A580 uA580).1 v585.toInt.toNat (by omega)
                refine g_isub' (fun v608 ov608 => ?_)
                have sv608 : v608.toInt = v606.toInt - v607.toInt := gz_sub_of ov608 (by omega)
                refine g_iadd' (fun v609 ov609 => ?_)
                have sv609 : v609.toInt = v584.toInt + v608.toInt := gz_add_of ov609 (by omega)
                refine g_istore_n (l' := [(0, .ref 0), (1, .int a1), (2, .int a2), (3, .int v609), (4, .int v585)]) rfl rfl ?_
                refine g_nop ?_
                refine g_iinc (l' := (fun v610 => [(0, .ref 0), (1, .int a1), (2, .int a2), (3, .int v609), (4, .int v610)])) rfl rfl (by decide) (by omega) (fun _ => rfl) (fun v610 ev610 => ?_)
                refine g_goto ?_
                exact ihL586 v609 v610 (by omega) (by omega) (dt_y q1 (by omega) (by first | (rw [if_pos (by omega)]; omega) | (rw [if_neg (by omega)]; omega)) (by omega)) (by omega) (by omega) (by omega)
      exact L586 _ v582 v583 (by omega) (by omega) (dt_0 (by omega) (by omega)) (by omega) (by omega) (Nat.lt_succ_self _)
    · refine g_iload_n rfl ?_
      refine g_bipush (by decide) (fun v611 kv611 => ?_)
      refine g_if2_eq (fun c612 => ?_) (fun c612 => ?_)
      · refine g_aload_n rfl ?_
        refine g_iload_n rfl ?_
        refine g_invvv hIH558 sm_0 rfl rfl rfl rfl (r_214 a1 (by omega) H558 hIH558 hJH558 (fun A t => hp0 A (tk_kp m560 t))) (fun H613 r614 => ?_)
        obtain ⟨hIH613, hJH613, w615, m616, p617⟩ := r614
        have e618 : k0_2 = fZ H613 0 2 := e559.trans w615.symm
        have m619 : kpM H H613 := kpM_t m560 m616
        obtain ⟨A620, ttA620, G621, cG621, tnG621, taG621⟩ := p617
        have uA620 : tkW H A620 := tk_kp m560 ttA620
        refine g_iconst (by decide) (fun v622 kv622 => ?_)
        refine g_istore_n (l' := [(0, .ref 0), (1, .int a1), (2, .int a2), (3, .int v622)]) rfl rfl ?_
        refine g_iconst (by decide) (fun v623 kv623 => ?_)
        refine g_istore (l' := [(0, .ref 0), (1, .int a1), (2, .int a2), (3, .int v622), (4, .int v623)]) rfl rfl ?_
        refine g_nop ?_
        have L626 : ∀ (N : Nat) (v624 : Int32) (v625 : Int32), (-60939 ≤ v624.toInt ∧ v624.toInt ≤ 60939) → (0 ≤ v625.toInt ∧ v625.toInt ≤ 60) → v624.toInt = dwT (trS (fun q => whM (fM A620 G621 (q + 1)).1 (fM A620 G621 (q + 1)).2 a1.toInt.toNat) (hqM A620) (cnM A620)) a2.toInt (mxF (fun k => (aZ H 2 (69 + 5 * k)).toInt) (aZ H 2 2).toInt.toNat) v625.toInt.toNat → (-(999 * v625.toInt) ≤ v624.toInt ∧ v624.toInt ≤ 999 * v625.toInt) → (v625.toInt : Int) ≤ ((trS (fun q => whM (fM A620 G621 (q + 1)).1 (fM A620 G621 (q + 1)).2 a1.toInt.toNat) (hqM A620) (cnM A620)).1 : Int) → (60 - v625.toInt).toNat < N → gG 5 zB_217 (mzBlk zB_217 3) [(0, .ref 0), (1, .int a1), (2, .int a2), (3, .int v624), (4, .int v625)] [] H613 0 0 (gRi (fun v H' => gI SM H' ∧ JN H' ∧ fZ H' 0 2 = fZ H 0 2 ∧ kpM H H' ∧ ((v.toInt = -1 ∧ ¬ ((0 ≤ a1.toInt ∧ a1.toInt ≤ 39) ∧ (a2.toInt = -3 ∨ (0 ≤ a2.toInt ∧ a2.toInt < (aZ H 2 0).toInt)))) ∨ (((0 ≤ a1.toInt ∧ a1.toInt ≤ 39) ∧ (a2.toInt = -3 ∨ (0 ≤ a2.toInt ∧ a2.toInt < (aZ H 2 0).toInt))) ∧ (∃ A : mzH, tkW H A ∧ ∃ G : mzH, clR (rgM G) (mdM G) ∧ v.toInt = dwT (trS (fun q => whM (fM A G (q + 1)).1 (fM A G (q + 1)).2 a1.toInt.toNat) (hqM A) (cnM A)) a2.toInt (mxF (fun k => (aZ H 2 (69 + 5 * k)).toInt) (aZ H 2 2).toInt.toNat) (trS (fun q => whM (fM A G (q + 1)).1 (fM A G (q + 1)).2 a1.toInt.toNat) (hqM A) (cnM A)).1))))) := by
          intro N
          induction N with
          | zero => intro v624 v625 bv624 bv625 q1 q2 q3 hmL626; exact absurd hmL626 (Nat.not_lt_zero _)
          | succ N ihL626 =>
            intro v624 v625 bv624 bv625 q1 q2 q3 hmL626
            refine g_iload rfl ?_
            refine g_aload_n rfl ?_
            refine g_gfi hIH613 sm_0 rfl (fun v627 ev627 lv627 uv627 => ?_)
            have zv627 : v627.toInt = (fZ H613 0 39).toInt := by rw [ev627]
            refine g_if2_ge (fun c628 => ?_) (fun c628 => ?_)
            · refine g_iload_n rfl ?_
              exact g_iret ⟨_, rfl, hIH613, (JM_n hJH613), (e618.symm.trans ek0_2), m619, (Or.inr ⟨by omega, ⟨A620, uA620, G621, cG621,  by rw [show (trS (fun q => whM (fM A620 G621 (q + 1)).1 (fM A620 G621 (q + 1)).2 a1.toInt.toNat) (hqM A620) (cnM A620)).1 = v625.toInt.toNat by omega]; exact q1⟩⟩)⟩
            · refine g_aload_n rfl ?_
              refine g_gfr hIH613 sm_0 rfl ?_
              refine g_iload rfl ?_
              refine g_iaload hIH613 sm_22 rfl (by omega) (fun v629 ev629 lv629 uv629 => ?_)
              have yv629 : v629.toInt = (trS (fun q => whM (fM A620 G621 (q + 1)).1 (fM A620 G621 (q + 1)).2 a1.toInt.toNat) (hqM A620) (cnM A620)).2.1 v625.toInt.toNat := by rw [ev629]; exact (taG621 v625.toInt.toNat (by omega)).1
              refine g_iload_n rfl ?_
              refine g_if2_ne (fun c630 => ?_) (fun c630 => ?_)
              · refine g_iinc (l' := (fun v631 => [(0, .ref 0), (1, .int a1), (2, .int a2), (3, .int v624), (4, .int v631)])) rfl rfl (by decide) (by omega) (fun _ => rfl) (fun v631 ev631 => ?_)
                refine g_goto ?_
                exact ihL626 v624 v631 (by omega) (by omega) (dt_n q1 (by omega) (by omega) (by omega)) (by omega) (by omega) (by omega)
              · refine g_iload_n rfl ?_
                refine g_iload rfl ?_
                refine g_iconst (by decide) (fun v632 kv632 => ?_)
                refine g_iadd (by omega) (fun v633 ev633 => ?_)
                refine g_aload_n rfl ?_
                refine g_gfi hIH613 sm_0 rfl (fun v634 ev634 lv634 uv634 => ?_)
                have zv634 : v634.toInt = (fZ H613 0 39).toInt := by rw [ev634]
                refine g_if2_ge (fun c635 => ?_) (fun c635 => ?_)
                · refine g_aload_n rfl ?_
                  refine g_invvi hIH613 sm_0 rfl rfl rfl rfl (r_216 H613 hIH613 (JM_n hJH613)) (fun v638 H636 r637 => ?_)
                  obtain ⟨rfl, p639⟩ := r637
                  have ltv638 : v638.toInt = mxF (fun k => (aZ H 2 (69 + 5 * k)).toInt) (aZ H 2 2).toInt.toNat := by rw [p639, mxm_kp m619]
                  have lbv638 := mx_b (f := fun k => (aZ H 2 (69 + 5 * k)).toInt) (aZ H 2 2).toInt.toNat (fun k hk => hp1 k (by omega))
                  refine g_nop ?_
                  refine g_aload_n rfl ?_
                  refine g_gfr hIH613 sm_0 rfl ?_
                  refine g_iload rfl ?_
                  refine g_iaload hIH613 sm_23 rfl (by omega) (fun v640 ev640 lv640 uv640 => ?_)
                  have yv640 : v640.toInt = (trS (fun q => whM (fM A620 G621 (q + 1)).1 (fM A620 G621 (q + 1)).2 a1.toInt.toNat) (hqM A620) (cnM A620)).2.2.1 v625.toInt.toNat := by rw [ev640]; exact (taG621 v625.toInt.toNat (by omega)).2
                  have hbv640 := tr_b (wh := fun q => whM (fM A620 G621 (q + 1)).1 (fM A620 G621 (q + 1)).2 a1.toInt.toNat) (hr := hqM A620) (cnM A620) (hp0 A620 uA620).1 v625.toInt.toNat (by omega)
                  refine g_isub' (fun v641 ov641 => ?_)
                  have sv641 : v641.toInt = v638.toInt - v640.toInt := gz_sub_of ov641 (by omega)
                  refine g_iadd' (fun v642 ov642 => ?_)
                  have sv642 : v642.toInt = v624.toInt + v641.toInt := gz_add_of ov642 (by omega)
                  refine g_istore_n (l' := [(0, .ref 0), (1, .int a1), (2, .int a2), (3, .int v642), (4, .int v625)]) rfl rfl ?_
                  refine g_nop ?_
                  refine g_iinc (l' := (fun v643 => [(0, .ref 0), (1, .int a1), (2, .int a2), (3, .int v642), (4, .int v643)])) rfl rfl (by decide) (by omega) (fun _ => rfl) (fun v643 ev643 => ?_)
                  refine g_goto ?_
                  exact ihL626 v642 v643 (by omega) (by omega) (dt_y q1 (by omega) (by first | (rw [if_pos (by omega)]; omega) | (rw [if_neg (by omega)]; omega)) (by omega)) (by omega) (by omega) (by omega)
                · refine g_aload_n rfl ?_
                  refine g_gfr hIH613 sm_0 rfl ?_
                  refine g_iload rfl ?_
                  refine g_iconst (by decide) (fun v644 kv644 => ?_)
                  refine g_iadd (by omega) (fun v645 ev645 => ?_)
                  refine g_iaload hIH613 sm_23 rfl (by omega) (fun v646 ev646 lv646 uv646 => ?_)
                  have yv646 : v646.toInt = (trS (fun q => whM (fM A620 G621 (q + 1)).1 (fM A620 G621 (q + 1)).2 a1.toInt.toNat) (hqM A620) (cnM A620)).2.2.1 v645.toInt.toNat := by rw [ev646]; exact (taG621 v645.toInt.toNat (by omega)).2
                  have hbv646 := tr_b (wh := fun q => whM (fM A620 G621 (q + 1)).1 (fM A620 G621 (q + 1)).2 a1.toInt.toNat) (hr := hqM A620) (cnM A620) (hp0 A620 uA620).1 v645.toInt.toNat (by omega)
                  rw [show v645.toInt.toNat = v625.toInt.toNat + 1 by omega] at yv646 hbv646
                  refine g_goto ?_
                  refine g_aload_n rfl ?_
                  refine g_gfr hIH613 sm_0 rfl ?_
                  refine g_iload rfl ?_
                  refine g_iaload hIH613 sm_23 rfl (by omega) (fun v647 ev647 lv647 uv647 => ?_)
                  have yv647 : v647.toInt = (trS (fun q => whM (fM A620 G621 (q + 1)).1 (fM A620 G621 (q + 1)).2 a1.toInt.toNat) (hqM A620) (cnM A620)).2.2.1 v625.toInt.toNat := by rw [ev647]; exact (taG621 v625.toInt.toNat (by omega)).2
                  have hbv647 := tr_b (wh := fun q => whM (fM A620 G621 (q + 1)).1 (fM A620 G621 (q + 1)).2 a1.toInt.toNat) (hr := hqM A620) (cnM A620) (hp0 A620 uA620).1 v625.toInt.toNat (by omega)
                  refine g_isub' (fun v648 ov648 => ?_)
                  have sv648 : v648.toInt = v646.toInt - v647.toInt := gz_sub_of ov648 (by omega)
                  refine g_iadd' (fun v649 ov649 => ?_)
                  have sv649 : v649.toInt = v624.toInt + v648.toInt := gz_add_of ov649 (by omega)
                  refine g_istore_n (l' := [(0, .ref 0), (1, .int a1), (2, .int a2), (3, .int v649), (4, .int v625)]) rfl rfl ?_
                  refine g_nop ?_
                  refine g_iinc (l' := (fun v650 => [(0, .ref 0), (1, .int a1), (2, .int a2), (3, .int v649), (4, .int v650)])) rfl rfl (by decide) (by omega) (fun _ => rfl) (fun v650 ev650 => ?_)
                  refine g_goto ?_
                  exact ihL626 v649 v650 (by omega) (by omega) (dt_y q1 (by omega) (by first | (rw [if_pos (by omega)]; omega) | (rw [if_neg (by omega)]; omega)) (by omega)) (by omega) (by omega) (by omega)
        exact L626 _ v622 v623 (by omega) (by omega) (dt_0 (by omega) (by omega)) (by omega) (by omega) (Nat.lt_succ_self _)
      · refine g_nop ?_
        refine g_iconst (by decide) (fun v651 kv651 => ?_)
        exact g_iret ⟨_, rfl, hIH558, hJH558, (e559.symm.trans ek0_2), m560, (Or.inl ⟨by omega, by omega⟩)⟩
