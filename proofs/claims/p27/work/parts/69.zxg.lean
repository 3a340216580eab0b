theorem gdY_kp {H A : mzH} (fr : kpX H A) (h : gdY H) : gdY A := by
  have e3 := fr 3 (by decide)
  have e25 := fr 25 (by decide)
  have e26 := fr 26 (by decide)
  have e27 := fr 27 (by decide)
  have e6 := fr 6 (by decide)
  have er : roX A = roX H ∨ True := Or.inr trivial
  obtain ⟨⟨h0, h00, h01⟩, h1, h2⟩ := h
  refine ⟨⟨by rw [e25.1]; exact h0, by rw [e25.1, e3.1]; exact h00, fun i => by rw [e26.2, e6.2]; exact h01 i⟩, fun q hq => ?_, fun j hj => ?_⟩
  · rw [e25.1] at hq ⊢
    unfold odX
    rw [e27.2]
    exact h1 q hq
  · rw [e25.1] at hj
    have k := h2 j hj
    have a1 : roX A j 1 = roX H j 1 := by show (aZ A 7 j).toInt = (aZ H 7 j).toInt; rw [(fr 7 (by decide)).2]
    have a2 : roX A j 2 = roX H j 2 := by show (aZ A 8 j).toInt = (aZ H 8 j).toInt; rw [(fr 8 (by decide)).2]
    have a3 : roX A j 3 = roX H j 3 := by show (aZ A 9 j).toInt = (aZ H 9 j).toInt; rw [(fr 9 (by decide)).2]
    have a4 : roX A j 4 = roX H j 4 := by show (aZ A 10 j).toInt = (aZ H 10 j).toInt; rw [(fr 10 (by decide)).2]
    have a5 : hoX A j = hoX H j := by show (aZ A 26 j).toInt = (aZ H 26 j).toInt; rw [e26.2]
    unfold rwO at k ⊢
    rw [a1, a2, a3, a4, a5]
    exact k
set_option maxRecDepth 4000 in
set_option maxHeartbeats 4000000 in
/-- X3.lastVerdictWithout -/
theorem w_30  (a1 : Int32) (a2 : Int32) (H : mzH) (hI : gI SX H) (hJ : JX H) (hp0 : gdY H) (hp1 : -1 ≤ a2.toInt) : gCall 30 [.ref 43, .int a1, .int a2] H (gRi (fun v H' => gI SX H' ∧ JX H' ∧ fZ H' 1 1 = fZ H 1 1 ∧ kpX H H' ∧ (∃ m : Nat, ((m : Int) = a2.toInt + 1 ∨ ((m : Int) = (fZ H 25 2).toInt ∧ (fZ H 25 2).toInt ≤ a2.toInt + 1)) ∧ (m : Int) ≤ (fZ H 25 2).toInt ∧ wdX H' 44 (rnH H (hoX H) ((olF m (odX H)).filter (fun j => decide (¬ (j : Int) = a1.toInt)))) ∧ v.toInt = vrH H (hoX H) ((olF m (odX H)).filter (fun j => decide (¬ (j : Int) = a1.toInt)))))) := by
  obtain ⟨k1_1, ek1_1⟩ : ∃ z, z = fZ H 1 1 := ⟨_, rfl⟩
  have ik1_1 : k1_1.toInt = (fZ H 1 1).toInt := by rw [← ek1_1]
  have bk1_1 : 0 ≤ k1_1.toInt ∧ k1_1.toInt ≤ 900 := by rw [ek1_1]; exact fZ_of hI sx_1 rfl
  have mkfr : kpX H H := kpX_r
  refine gG_call [(0, .ref 43), (1, .int a1), (2, .int a2)] ⟨rfl, rfl, rfl, trivial⟩ ?_
  show gG 6 zB_30 (mzBlk zB_30 0) [(0, .ref 43), (1, .int a1), (2, .int a2)] [] H 0 0 _
  refine g_aload_n rfl ?_
  refine g_gfr hI sx_43 rfl ?_
  refine g_invvv hI sx_44 rfl rfl rfl rfl (w_83 44 zWo_44 H hI hJ) (fun H317 r318 => ?_)
  obtain ⟨hIH317, hJH317, w319, m320, p321⟩ := r318
  have e322 : k1_1 = fZ H317 1 1 := ek1_1.trans w319.symm
  have m323 : kpX H H317 := kpX_t mkfr (kpX_W (by decide) m320)
  refine g_iconst (by decide) (fun v324 kv324 => ?_)
  refine g_istore_n (l' := [(0, .ref 43), (1, .int a1), (2, .int a2), (3, .int v324)]) rfl rfl ?_
  refine g_iconst (by decide) (fun v325 kv325 => ?_)
  refine g_istore (l' := [(0, .ref 43), (1, .int a1), (2, .int a2), (3, .int v324), (4, .int v325)]) rfl rfl ?_
  refine g_nop ?_
  have L331 : ∀ (N : Nat) (v326 : Int32) (v327 : Int32) (H328 : mzH), gI SX H328 → JX H328 → k1_1 = fZ H328 1 1 → kpX H H328 → (0 ≤ v327.toInt ∧ v327.toInt ≤ 60) → (v327.toInt ≤ (fZ H 25 2).toInt ∧ v327.toInt ≤ a2.toInt + 1) → wdX H328 44 (rnH H (hoX H) ((olF v327.toInt.toNat (odX H)).filter (fun j => decide (¬ (j : Int) = a1.toInt)))) → v326.toInt = vrH H (hoX H) ((olF v327.toInt.toNat (odX H)).filter (fun j => decide (¬ (j : Int) = a1.toInt))) → (60 - v327.toInt).toNat < N → gG 6 zB_30 (mzBlk zB_30 1) [(0, .ref 43), (1, .int a1), (2, .int a2), (3, .int v326), (4, .int v327)] [] H328 0 0 (gRi (fun v H' => gI SX H' ∧ JX H' ∧ fZ H' 1 1 = fZ H 1 1 ∧ kpX H H' ∧ (∃ m : Nat, ((m : Int) = a2.toInt + 1 ∨ ((m : Int) = (fZ H 25 2).toInt ∧ (fZ H 25 2).toInt ≤ a2.toInt + 1)) ∧ (m : Int) ≤ (fZ H 25 2).toInt ∧ wdX H' 44 (rnH H (hoX H) ((olF m (odX H)).filter (fun j => decide (¬ (j : Int) = a1.toInt)))) ∧ v.toInt = vrH H (hoX H) ((olF m (odX H)).filter (fun j => decide (¬ (j : Int) = a1.toInt)))))) := by
    intro N
    induction N with
    | zero => intro v326 v327 H328 hIH328 hJH328 e329 m330 bv327 q0 q1 q2 hmL331; exact absurd hmL331 (Nat.not_lt_zero _)
    | succ N ihL331 =>
      intro v326 v327 H328 hIH328 hJH328 e329 m330 bv327 q0 q1 q2 hmL331
      refine g_iload rfl ?_
      refine g_iload_n rfl ?_
      refine g_if2_gt (fun c332 => ?_) (fun c332 => ?_)
      · refine g_iload_n rfl ?_
        exact g_iret ⟨_, rfl, hIH328, hJH328, (e329.symm.trans ek1_1), m330, ⟨v327.toInt.toNat, by omega, by omega, q1, q2⟩⟩
      · refine g_iload rfl ?_
        refine g_aload_n rfl ?_
        refine g_gfr hIH328 sx_43 rfl ?_
        refine g_gfr hIH328 sx_24 rfl ?_
        refine g_gfi hIH328 sx_25 rfl (fun v333 ev333 lv333 uv333 => ?_)
        have zv333 : v333.toInt = (fZ H 25 2).toInt := by rw [ev333, (m330 25 (by decide)).1]
        refine g_if2_ge (fun c334 => ?_) (fun c334 => ?_)
        · refine g_iload_n rfl ?_
          exact g_iret ⟨_, rfl, hIH328, hJH328, (e329.symm.trans ek1_1), m330, ⟨v327.toInt.toNat, by omega, by omega, q1, q2⟩⟩
        · refine g_aload_n rfl ?_
          refine g_gfr hIH328 sx_43 rfl ?_
          refine g_gfr hIH328 sx_24 rfl ?_
          refine g_gfr hIH328 sx_25 rfl ?_
          refine g_iload rfl ?_
          refine g_iaload hIH328 sx_27 rfl (by omega) (fun v335 ev335 lv335 uv335 => ?_)
          have zv335 : v335.toInt.toNat = odX H v327.toInt.toNat := by rw [ev335, (m330 27 (by decide)).2]; rfl
          refine g_istore (l' := [(0, .ref 43), (1, .int a1), (2, .int a2), (3, .int v326), (4, .int v327), (5, .int v335)]) rfl rfl ?_
          refine g_iload rfl ?_
          refine g_iload_n rfl ?_
          refine g_if2_eq (fun c336 => ?_) (fun c336 => ?_)
          · refine g_iinc (l' := (fun v337 => [(0, .ref 43), (1, .int a1), (2, .int a2), (3, .int v326), (4, .int v337), (5, .int v335)])) rfl rfl (by decide) (by omega) (fun _ => rfl) (fun v337 ev337 => ?_)
            refine g_goto ?_
            refine gG_pick [0, 1, 2, 3, 4] (l' := [(0, .ref 43), (1, .int a1), (2, .int a2), (3, .int v326), (4, .int v337)]) rfl ?_
            exact ihL331 v326 v337 H328 hIH328 hJH328 e329 m330 (by omega) (by omega) (by rw [show v337.toInt.toNat = v327.toInt.toNat + 1 by omega, fl_n (by show ¬ decide _ = true; rw [decide_eq_true_eq]; omega)]; exact q1) (by rw [show v337.toInt.toNat = v327.toInt.toNat + 1 by omega, fl_n (by show ¬ decide _ = true; rw [decide_eq_true_eq]; omega)]; exact q2) (by omega)
          · refine g_aload_n rfl ?_
            refine g_gfr hIH328 sx_43 rfl ?_
            refine g_aload_n rfl ?_
            refine g_gfr hIH328 sx_43 rfl ?_
            refine g_iload rfl ?_
            refine g_aload_n rfl ?_
            refine g_gfr hIH328 sx_43 rfl ?_
            refine g_gfr hIH328 sx_3 rfl ?_
            refine g_iload rfl ?_
            refine g_iaload hIH328 sx_6 rfl (by omega) (fun v338 ev338 lv338 uv338 => ?_)
            have hyv338 : v338.toInt = hoX H (odX H v327.toInt.toNat) := by rw [ev338, (m330 6 (by decide)).2, zv335]; show _ = (aZ H 26 _).toInt; rw [hp0.1.2.2]
            have hbv338 : 0 ≤ v338.toInt ∧ v338.toInt ≤ 999 := by rw [hyv338]; exact (hp0.2.2 (odX H v327.toInt.toNat) (hp0.2.1 v327.toInt.toNat (by omega))).2.2.2.2.1
            refine g_invvi hIH328 sx_44 rfl rfl rfl rfl (w_93 44 zWo_44 v335 (by omega) v338 (by omega) H328 hIH328 hJH328 q1 (wf_la (rn_fl hp0 (by omega))) (wf_kd (rn_fl hp0 (by omega))) (by rw [(m330 7 (by decide)).2, zv335]; exact (hp0.2.2 (odX H v327.toInt.toNat) (hp0.2.1 v327.toInt.toNat (by omega))).1)) (fun v341 H339 r340 => ?_)
            obtain ⟨hIH339, hJH339, w342, m343, p344, p345⟩ := r340
            have e346 : k1_1 = fZ H339 1 1 := e329.trans w342.symm
            have m347 : kpX H H339 := kpX_t m330 (kpX_W (by decide) m343)
            have wzv327 : wdX H339 44 (stH H (hoX H) (rnH H (hoX H) ((olF v327.toInt.toNat (odX H)).filter (fun j => decide (¬ (j : Int) = a1.toInt)))) (odX H v327.toInt.toNat)) := gx_l3 m330 p344 zv335 hyv338
            have vdv327 := gv_l3 (hr := hoX H) m330 p345 zv335 hyv338
            refine g_istore_n (l' := [(0, .ref 43), (1, .int a1), (2, .int a2), (3, .int v341), (4, .int v327), (5, .int v335)]) rfl rfl ?_
            refine g_nop ?_
            refine g_iinc (l' := (fun v348 => [(0, .ref 43), (1, .int a1), (2, .int a2), (3, .int v341), (4, .int v348), (5, .int v335)])) rfl rfl (by decide) (by omega) (fun _ => rfl) (fun v348 ev348 => ?_)
            refine g_goto ?_
            refine gG_pick [0, 1, 2, 3, 4] (l' := [(0, .ref 43), (1, .int a1), (2, .int a2), (3, .int v341), (4, .int v348)]) rfl ?_
            exact ihL331 v341 v348 H339 hIH339 hJH339 e346 m347 (by omega) (by omega) (by rw [show v348.toInt.toNat = v327.toInt.toNat + 1 by omega]; exact wd_rn wzv327 (fl_y (by show decide _ = true; rw [decide_eq_true_eq]; omega))) (by rw [show v348.toInt.toNat = v327.toInt.toNat + 1 by omega, fl_y (by show decide _ = true; rw [decide_eq_true_eq]; omega), vr_s]; exact vdv327) (by omega)
  exact L331 _ v324 v325 H317 hIH317 hJH317 e322 m323 (by omega) (by have := fZ_of hI sx_25 (f := 2) rfl; omega) (by rw [show v325.toInt.toNat = 0 by omega]; exact p321) (by rw [show v325.toInt.toNat = 0 by omega]; show _ = (0 : Int); omega) (Nat.lt_succ_self _)
set_option maxRecDepth 4000 in
set_option maxHeartbeats 4000000 in
/-- X1.hasMessage -/
theorem w_12  (a1 : Int32) (H : mzH) (hI : gI SX H) (hJ : JX H) : gCall 12 [.ref 3, .int a1] H (gRi (fun v H' => H = H' ∧ (0 ≤ v.toInt ∧ v.toInt ≤ 1) ∧ ((v.toInt = 1 ∧ (0 ≤ a1.toInt ∧ a1.toInt < (fZ H 3 9).toInt)) ∨ (v.toInt = 0 ∧ ¬ (0 ≤ a1.toInt ∧ a1.toInt < (fZ H 3 9).toInt))) ∧ (v.toInt = 0 ∨ (0 ≤ a1.toInt ∧ a1.toInt ≤ 59)))) := by
  obtain ⟨k3_9, ek3_9⟩ : ∃ z, z = fZ H 3 9 := ⟨_, rfl⟩
  have ik3_9 : k3_9.toInt = (fZ H 3 9).toInt := by rw [← ek3_9]
  have bk3_9 : 0 ≤ k3_9.toInt ∧ k3_9.toInt ≤ 60 := by rw [ek3_9]; exact fZ_of hI sx_3 rfl
  refine gG_call [(0, .ref 3), (1, .int a1)] ⟨rfl, rfl, trivial⟩ ?_
  show gG 2 zB_12 (mzBlk zB_12 0) [(0, .ref 3), (1, .int a1)] [] H 0 0 _
  refine g_iload_n rfl ?_
  refine g_if_lt (fun c21 => ?_) (fun c21 => ?_)
  · refine g_iconst (by decide) (fun v22 kv22 => ?_)
    refine g_nop ?_
    exact g_zret (by omega) ⟨_, rfl, rfl, (by omega), (by omega), (by omega)⟩
  · refine g_iload_n rfl ?_
    refine g_aload_n rfl ?_
    refine g_gfk hI sx_3 rfl ek3_9 ?_
    refine g_if2_ge (fun c23 => ?_) (fun c23 => ?_)
    · refine g_iconst (by decide) (fun v24 kv24 => ?_)
      refine g_nop ?_
      exact g_zret (by omega) ⟨_, rfl, rfl, (by omega), (by omega), (by omega)⟩
    · refine g_iconst (by decide) (fun v25 kv25 => ?_)
      refine g_goto ?_
      exact g_zret (by omega) ⟨_, rfl, rfl, (by omega), (by omega), (by omega)⟩
