set_option maxRecDepth 4000 in
set_option maxHeartbeats 4000000 in
/-- X5.worldOfFirst -/
theorem w_56  (a1 : Int32) (H : mzH) (hI : gI SX H) (hJ : JX H) (hp0 : gdY H) : gCall 56 [.ref 24, .int a1] H (gRa 28 (fun H' => gI SX H' ∧ JX H' ∧ fZ H' 1 1 = fZ H 1 1 ∧ kpX H H' ∧ wdX H' 28 (rnH H (hoX H) ((olF (fZ H 25 2).toInt.toNat (odX H)).filter (fun j => decide ((j : Int) < a1.toInt)))))) := by
  obtain ⟨k1_1, ek1_1⟩ : ∃ z, z = fZ H 1 1 := ⟨_, rfl⟩
  have ik1_1 : k1_1.toInt = (fZ H 1 1).toInt := by rw [← ek1_1]
  have bk1_1 : 0 ≤ k1_1.toInt ∧ k1_1.toInt ≤ 900 := by rw [ek1_1]; exact fZ_of hI sx_1 rfl
  have mkfr : kpX H H := kpX_r
  refine gG_call [(0, .ref 24), (1, .int a1)] ⟨rfl, rfl, trivial⟩ ?_
  show gG 3 zB_56 (mzBlk zB_56 0) [(0, .ref 24), (1, .int a1)] [] H 0 0 _
  refine g_aload_n rfl ?_
  refine g_gfr hI sx_24 rfl ?_
  refine g_invvv hI sx_28 rfl rfl rfl rfl (w_83 28 zWo_28 H hI hJ) (fun H257 r258 => ?_)
  obtain ⟨hIH257, hJH257, w259, m260, p261⟩ := r258
  have e262 : k1_1 = fZ H257 1 1 := ek1_1.trans w259.symm
  have m263 : kpX H H257 := kpX_t mkfr (kpX_W (by decide) m260)
  refine g_iconst (by decide) (fun v264 kv264 => ?_)
  refine g_istore_n (l' := [(0, .ref 24), (1, .int a1), (2, .int v264)]) rfl rfl ?_
  refine g_nop ?_
  have L269 : ∀ (N : Nat) (v265 : Int32) (H266 : mzH), gI SX H266 → JX H266 → k1_1 = fZ H266 1 1 → kpX H H266 → (0 ≤ v265.toInt ∧ v265.toInt ≤ 60) → v265.toInt ≤ (fZ H 25 2).toInt → wdX H266 28 (rnH H (hoX H) ((olF v265.toInt.toNat (odX H)).filter (fun j => decide ((j : Int) < a1.toInt)))) → (60 - v265.toInt).toNat < N → gG 3 zB_56 (mzBlk zB_56 1) [(0, .ref 24), (1, .int a1), (2, .int v265)] [] H266 0 0 (gRa 28 (fun H' => gI SX H' ∧ JX H' ∧ fZ H' 1 1 = fZ H 1 1 ∧ kpX H H' ∧ wdX H' 28 (rnH H (hoX H) ((olF (fZ H 25 2).toInt.toNat (odX H)).filter (fun j => decide ((j : Int) < a1.toInt)))))) := by
    intro N
    induction N with
    | zero => intro v265 H266 hIH266 hJH266 e267 m268 bv265 q0 q1 hmL269; exact absurd hmL269 (Nat.not_lt_zero _)
    | succ N ihL269 =>
      intro v265 H266 hIH266 hJH266 e267 m268 bv265 q0 q1 hmL269
      refine g_iload_n rfl ?_
      refine g_aload_n rfl ?_
      refine g_gfr hIH266 sx_24 rfl ?_
      refine g_gfi hIH266 sx_25 rfl (fun v270 ev270 lv270 uv270 => ?_)
      have zv270 : v270.toInt = (fZ H 25 2).toInt := by rw [ev270, (m268 25 (by decide)).1]
      refine g_if2_ge (fun c271 => ?_) (fun c271 => ?_)
      · refine g_aload_n rfl ?_
        refine g_gfr hIH266 sx_24 rfl ?_
        exact g_aret ⟨rfl, hIH266, hJH266, (e267.symm.trans ek1_1), m268, (by rw [show (fZ H 25 2).toInt.toNat = v265.toInt.toNat by omega]; exact q1)⟩
      · refine g_aload_n rfl ?_
        refine g_gfr hIH266 sx_24 rfl ?_
        refine g_gfr hIH266 sx_25 rfl ?_
        refine g_iload_n rfl ?_
        refine g_iaload hIH266 sx_27 rfl (by omega) (fun v272 ev272 lv272 uv272 => ?_)
        have zv272 : v272.toInt.toNat = odX H v265.toInt.toNat := by rw [ev272, (m268 27 (by decide)).2]; rfl
        refine g_iload_n rfl ?_
        refine g_if2_ge (fun c273 => ?_) (fun c273 => ?_)
        · refine g_iinc (l' := (fun v274 => [(0, .ref 24), (1, .int a1), (2, .int v274)])) rfl rfl (by decide) (by omega) (fun _ => rfl) (fun v274 ev274 => ?_)
          refine g_goto ?_
          exact ihL269 v274 H266 hIH266 hJH266 e267 m268 (by omega) (by omega) (by rw [show v274.toInt.toNat = v265.toInt.toNat + 1 by omega, fl_n (by show ¬ decide _ = true; rw [decide_eq_true_eq]; omega)]; exact q1) (by omega)
        · refine g_aload_n rfl ?_
          refine g_iload_n rfl ?_
          refine g_invvi hIH266 sx_24 rfl rfl rfl rfl (w_53 v265 (by omega) H266 hIH266 hJH266 q1 (wf_la (rn_fl hp0 (by omega))) (wf_kd (rn_fl hp0 (by omega))) (by rw [(m268 26 (by decide)).2, (m268 27 (by decide)).2]; exact (hp0.2.2 (odX H v265.toInt.toNat) (hp0.2.1 v265.toInt.toNat (by omega))).2.2.2.2.1) (by rw [(m268 7 (by decide)).2, (m268 27 (by decide)).2]; exact (hp0.2.2 (odX H v265.toInt.toNat) (hp0.2.1 v265.toInt.toNat (by omega))).1)) (fun v277 H275 r276 => ?_)
          obtain ⟨hIH275, hJH275, w278, m279, p280, p281⟩ := r276
          have e282 : k1_1 = fZ H275 1 1 := e267.trans w278.symm
          have m283 : kpX H H275 := kpX_t m268 m279
          have wzv265 : wdX H275 28 (stH H (hoX H) (rnH H (hoX H) ((olF v265.toInt.toNat (odX H)).filter (fun j => decide ((j : Int) < a1.toInt)))) (odX H v265.toInt.toNat)) := gx_s3 m268 p280
          refine g_pop rfl ?_
          refine g_nop ?_
          refine g_iinc (l' := (fun v284 => [(0, .ref 24), (1, .int a1), (2, .int v284)])) rfl rfl (by decide) (by omega) (fun _ => rfl) (fun v284 ev284 => ?_)
          refine g_goto ?_
          exact ihL269 v284 H275 hIH275 hJH275 e282 m283 (by omega) (by omega) (by rw [show v284.toInt.toNat = v265.toInt.toNat + 1 by omega]; exact wd_rn wzv265 (fl_y (by show decide _ = true; rw [decide_eq_true_eq]; omega))) (by omega)
  exact L269 _ v264 H257 hIH257 hJH257 e262 m263 (by omega) (by have := fZ_of hI sx_25 (f := 2) rfl; omega) (by rw [show v264.toInt.toNat = 0 by omega]; exact p261) (Nat.lt_succ_self _)
set_option maxRecDepth 4000 in
set_option maxHeartbeats 4000000 in
/-- X9.known -/
theorem w_125  (a1 : Int32) (a2 : Int32) (H : mzH) (hI : gI SX H) (hJ : JX H) (hp0 : gdY H) : gCall 125 [.ref 0, .int a1, .int a2] H (gRi (fun v H' => gI SX H' ∧ JX H' ∧ fZ H' 1 1 = fZ H 1 1 ∧ kpX H H' ∧ ((v.toInt = -1 ∧ ¬ ((0 ≤ a1.toInt ∧ a1.toInt ≤ (fZ H 3 9).toInt) ∧ (0 ≤ a2.toInt ∧ a2.toInt ≤ 39))) ∨ (((0 ≤ a1.toInt ∧ a1.toInt ≤ (fZ H 3 9).toInt) ∧ (0 ≤ a2.toInt ∧ a2.toInt ≤ 39)) ∧ v.toInt = whr (rnH H (hoX H) ((olF (fZ H 25 2).toInt.toNat (odX H)).filter (fun j => decide ((j : Int) < a1.toInt)))) a2.toInt.toNat)))) := by
  obtain ⟨k1_1, ek1_1⟩ : ∃ z, z = fZ H 1 1 := ⟨_, rfl⟩
  have ik1_1 : k1_1.toInt = (fZ H 1 1).toInt := by rw [← ek1_1]
  have bk1_1 : 0 ≤ k1_1.toInt ∧ k1_1.toInt ≤ 900 := by rw [ek1_1]; exact fZ_of hI sx_1 rfl
  obtain ⟨k3_9, ek3_9⟩ : ∃ z, z = fZ H 3 9 := ⟨_, rfl⟩
  have ik3_9 : k3_9.toInt = (fZ H 3 9).toInt := by rw [← ek3_9]
  have bk3_9 : 0 ≤ k3_9.toInt ∧ k3_9.toInt ≤ 60 := by rw [ek3_9]; exact fZ_of hI sx_3 rfl
  have mkfr : kpX H H := kpX_r
  refine gG_call [(0, .ref 0), (1, .int a1), (2, .int a2)] ⟨rfl, rfl, rfl, trivial⟩ ?_
  show gG 3 zB_125 (mzBlk zB_125 0) [(0, .ref 0), (1, .int a1), (2, .int a2)] [] H 0 0 _
  refine g_iload_n rfl ?_
  refine g_if_lt (fun c85 => ?_) (fun c85 => ?_)
  · refine g_iconst (by decide) (fun v86 kv86 => ?_)
    exact g_iret ⟨_, rfl, hI, hJ, (ek1_1.symm.trans ek1_1), mkfr, (Or.inl ⟨by omega, by omega⟩)⟩
  · refine g_iload_n rfl ?_
    refine g_aload_n rfl ?_
    refine g_gfr hI sx_0 rfl ?_
    refine g_gfk hI sx_3 rfl ek3_9 ?_
    refine g_if2_gt (fun c87 => ?_) (fun c87 => ?_)
    · refine g_iconst (by decide) (fun v88 kv88 => ?_)
      exact g_iret ⟨_, rfl, hI, hJ, (ek1_1.symm.trans ek1_1), mkfr, (Or.inl ⟨by omega, by omega⟩)⟩
    · refine g_iload_n rfl ?_
      refine g_invti rfl rfl rfl (w_149 a2 H hI hJ) (fun v91 H89 r90 => ?_)
      obtain ⟨rfl, bv91, p92⟩ := r90
      refine g_if_ne (fun c93 => ?_) (fun c93 => ?_)
      · refine g_aload_n rfl ?_
        refine g_gfr hI sx_0 rfl ?_
        refine g_iload_n rfl ?_
        refine g_invva hI sx_24 rfl rfl rfl rfl (w_56 a1 H hI hJ hp0) (fun H94 r95 => ?_)
        obtain ⟨hIH94, hJH94, w96, m97, p98⟩ := r95
        have e99 : k1_1 = fZ H94 1 1 := ek1_1.trans w96.symm
        have m100 : kpX H H94 := kpX_t mkfr m97
        refine g_iload_n rfl ?_
        refine g_invvi hIH94 sx_28 rfl rfl rfl rfl (w_91 28 zWo_28 a2 (by omega) H94 hIH94 hJH94 p98) (fun v103 H101 r102 => ?_)
        obtain ⟨rfl, p104⟩ := r102
        exact g_iret ⟨_, rfl, hIH94, hJH94, (e99.symm.trans ek1_1), m100, (Or.inr ⟨by omega, p104⟩)⟩
      · refine g_nop ?_
        refine g_iconst (by decide) (fun v105 kv105 => ?_)
        exact g_iret ⟨_, rfl, hI, hJ, (ek1_1.symm.trans ek1_1), mkfr, (Or.inl ⟨by omega, by omega⟩)⟩
