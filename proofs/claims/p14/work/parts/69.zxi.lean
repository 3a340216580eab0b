theorem rn_kp {H A : mzH} {P : Nat → Bool} (fr : kpX H A) : rnH A (hoX A) ((olF (fZ A 25 2).toInt.toNat (odX A)).filter P) = rnH H (hoX H) ((olF (fZ H 25 2).toInt.toNat (odX H)).filter P) := by
  have e1 : odX A = odX H := by
    funext q
    unfold odX
    rw [(fr 27 (by decide)).2]
  have e2 : hoX A = hoX H := by
    funext q
    unfold hoX
    rw [(fr 26 (by decide)).2]
  rw [rnH_kp fr, e1, e2, (fr 25 (by decide)).1]
theorem wdX_n {A B : mzH} {w lo hi : Nat} {s : pS} (h : wdX A w s) (k : kpN lo hi A B) (d : w + 6 < lo ∨ hi < w + 1) : wdX B w s := fun n hn => by
  obtain ⟨h1, h2, h3, h4, h5, h6, h7⟩ := h n hn
  exact ⟨by rw [(k (w + 1) (by omega)).2]; exact h1, by rw [(k (w + 2) (by omega)).2]; exact h2, by rw [(k (w + 3) (by omega)).2]; exact h3, by rw [(k (w + 4) (by omega)).2]; exact h4, by rw [(k (w + 5) (by omega)).2]; exact h5, by rw [(k (w + 6) (by omega)).2]; exact h6, h7⟩
set_option maxRecDepth 4000 in
set_option maxHeartbeats 4000000 in
/-- X8.become -/
theorem wb_35_28 {s : pS} (H : mzH) (hI : gI SX H) (hJ : JX H) (hp0 : wdX H 28 s) : gCall 84 [.ref 35, .ref 28] H (gRv (fun H' => gI SX H' ∧ JX H' ∧ fZ H' 1 1 = fZ H 1 1 ∧ kpN 36 41 H H' ∧ wdX H' 35 s)) := by
  obtain ⟨k1_1, ek1_1⟩ : ∃ z, z = fZ H 1 1 := ⟨_, rfl⟩
  have ik1_1 : k1_1.toInt = (fZ H 1 1).toInt := by rw [← ek1_1]
  have bk1_1 : 0 ≤ k1_1.toInt ∧ k1_1.toInt ≤ 900 := by rw [ek1_1]; exact fZ_of hI sx_1 rfl
  have mkfr : kpN 36 41 H H := kpN_r
  refine gG_call [(0, .ref 35), (1, .ref 28)] ⟨rfl, rfl, trivial⟩ ?_
  show gG 2 zB_84 (mzBlk zB_84 0) [(0, .ref 35), (1, .ref 28)] [] H 0 0 _
  refine g_aload_n rfl ?_
  refine g_gfr hI sx_28 rfl ?_
  refine g_iconst (by decide) (fun v145 kv145 => ?_)
  refine g_aload_n rfl ?_
  refine g_gfr hI sx_35 rfl ?_
  refine g_iconst (by decide) (fun v146 kv146 => ?_)
  refine g_bipush (by decide) (fun v147 kv147 => ?_)
  refine g_acp hI sx_36 sx_29 (by decide) (by decide) (by omega) (by omega) (by omega) rfl (fun H148 eH148 hIH148 => ?_)
  have hJH148 : JX H148 := JX_sC (by omega) eH148 hJ
  have e149 : k1_1 = fZ H148 1 1 := by rw [eH148, fZ_sC hI sx_36 sx_29]; exact ek1_1
  have m150 : kpN 36 41 H H148 := kpN_C hI sx_36 sx_29 mkfr eH148 (by omega)
  refine g_aload_n rfl ?_
  refine g_gfr hIH148 sx_28 rfl ?_
  refine g_iconst (by decide) (fun v151 kv151 => ?_)
  refine g_aload_n rfl ?_
  refine g_gfr hIH148 sx_35 rfl ?_
  refine g_iconst (by decide) (fun v152 kv152 => ?_)
  refine g_bipush (by decide) (fun v153 kv153 => ?_)
  refine g_acp hIH148 sx_37 sx_30 (by decide) (by decide) (by omega) (by omega) (by omega) rfl (fun H154 eH154 hIH154 => ?_)
  have hJH154 : JX H154 := JX_sC (by omega) eH154 hJH148
  have e155 : k1_1 = fZ H154 1 1 := by rw [eH154, fZ_sC hIH148 sx_37 sx_30]; exact e149
  have m156 : kpN 36 41 H H154 := kpN_C hIH148 sx_37 sx_30 m150 eH154 (by omega)
  refine g_aload_n rfl ?_
  refine g_gfr hIH154 sx_28 rfl ?_
  refine g_iconst (by decide) (fun v157 kv157 => ?_)
  refine g_aload_n rfl ?_
  refine g_gfr hIH154 sx_35 rfl ?_
  refine g_iconst (by decide) (fun v158 kv158 => ?_)
  refine g_bipush (by decide) (fun v159 kv159 => ?_)
  refine g_acp hIH154 sx_38 sx_31 (by decide) (by decide) (by omega) (by omega) (by omega) rfl (fun H160 eH160 hIH160 => ?_)
  have hJH160 : JX H160 := JX_sC (by omega) eH160 hJH154
  have e161 : k1_1 = fZ H160 1 1 := by rw [eH160, fZ_sC hIH154 sx_38 sx_31]; exact e155
  have m162 : kpN 36 41 H H160 := kpN_C hIH154 sx_38 sx_31 m156 eH160 (by omega)
  refine g_aload_n rfl ?_
  refine g_gfr hIH160 sx_28 rfl ?_
  refine g_iconst (by decide) (fun v163 kv163 => ?_)
  refine g_aload_n rfl ?_
  refine g_gfr hIH160 sx_35 rfl ?_
  refine g_iconst (by decide) (fun v164 kv164 => ?_)
  refine g_bipush (by decide) (fun v165 kv165 => ?_)
  refine g_acp hIH160 sx_39 sx_32 (by decide) (by decide) (by omega) (by omega) (by omega) rfl (fun H166 eH166 hIH166 => ?_)
  have hJH166 : JX H166 := JX_sC (by omega) eH166 hJH160
  have e167 : k1_1 = fZ H166 1 1 := by rw [eH166, fZ_sC hIH160 sx_39 sx_32]; exact e161
  have m168 : kpN 36 41 H H166 := kpN_C hIH160 sx_39 sx_32 m162 eH166 (by omega)
  refine g_aload_n rfl ?_
  refine g_gfr hIH166 sx_28 rfl ?_
  refine g_iconst (by decide) (fun v169 kv169 => ?_)
  refine g_aload_n rfl ?_
  refine g_gfr hIH166 sx_35 rfl ?_
  refine g_iconst (by decide) (fun v170 kv170 => ?_)
  refine g_bipush (by decide) (fun v171 kv171 => ?_)
  refine g_acp hIH166 sx_40 sx_33 (by decide) (by decide) (by omega) (by omega) (by omega) rfl (fun H172 eH172 hIH172 => ?_)
  have hJH172 : JX H172 := JX_sC (by omega) eH172 hJH166
  have e173 : k1_1 = fZ H172 1 1 := by rw [eH172, fZ_sC hIH166 sx_40 sx_33]; exact e167
  have m174 : kpN 36 41 H H172 := kpN_C hIH166 sx_40 sx_33 m168 eH172 (by omega)
  refine g_aload_n rfl ?_
  refine g_gfr hIH172 sx_28 rfl ?_
  refine g_iconst (by decide) (fun v175 kv175 => ?_)
  refine g_aload_n rfl ?_
  refine g_gfr hIH172 sx_35 rfl ?_
  refine g_iconst (by decide) (fun v176 kv176 => ?_)
  refine g_bipush (by decide) (fun v177 kv177 => ?_)
  refine g_acp hIH172 sx_41 sx_34 (by decide) (by decide) (by omega) (by omega) (by omega) rfl (fun H178 eH178 hIH178 => ?_)
  have hJH178 : JX H178 := JX_sC (by omega) eH178 hJH172
  have e179 : k1_1 = fZ H178 1 1 := by rw [eH178, fZ_sC hIH172 sx_41 sx_34]; exact e173
  have m180 : kpN 36 41 H H178 := kpN_C hIH172 sx_41 sx_34 m174 eH178 (by omega)
  exact g_ret ⟨rfl, hIH178, hJH178, (e179.symm.trans ek1_1), m180, (fun n hn => by obtain ⟨h1, h2, h3, h4, h5, h6, h7⟩ := hp0 n hn; exact ⟨by show (aZ H178 36 n).toInt = _; rw [eH178, aZ_sC_nc (by decide), eH172, aZ_sC_nc (by decide), eH166, aZ_sC_nc (by decide), eH160, aZ_sC_nc (by decide), eH154, aZ_sC_nc (by decide), eH148, aZ_sC_eq hI sx_36 sx_29]; exact h1, by show (aZ H178 37 n).toInt = _; rw [eH178, aZ_sC_nc (by decide), eH172, aZ_sC_nc (by decide), eH166, aZ_sC_nc (by decide), eH160, aZ_sC_nc (by decide), eH154, aZ_sC_eq hIH148 sx_37 sx_30, eH148, aZ_sC_nc (by decide)]; exact h2, by show (aZ H178 38 n).toInt = _; rw [eH178, aZ_sC_nc (by decide), eH172, aZ_sC_nc (by decide), eH166, aZ_sC_nc (by decide), eH160, aZ_sC_eq hIH154 sx_38 sx_31, eH154, aZ_sC_nc (by decide), eH148, aZ_sC_nc (by decide)]; exact h3, by show (aZ H178 39 n).toInt = _; rw [eH178, aZ_sC_nc (by decide), eH172, aZ_sC_nc (by decide), eH166, aZ_sC_eq hIH160 sx_39 sx_32, eH160, aZ_sC_nc (by decide), eH154, aZ_sC_nc (by decide), eH148, aZ_sC_nc (by decide)]; exact h4, by show (aZ H178 40 n).toInt = _; rw [eH178, aZ_sC_nc (by decide), eH172, aZ_sC_eq hIH166 sx_40 sx_33, eH166, aZ_sC_nc (by decide), eH160, aZ_sC_nc (by decide), eH154, aZ_sC_nc (by decide), eH148, aZ_sC_nc (by decide)]; exact h5, by show (aZ H178 41 n).toInt = _; rw [eH178, aZ_sC_eq hIH172 sx_41 sx_34, eH172, aZ_sC_nc (by decide), eH166, aZ_sC_nc (by decide), eH160, aZ_sC_nc (by decide), eH154, aZ_sC_nc (by decide), eH148, aZ_sC_nc (by decide)]; exact h6, h7⟩)⟩
set_option maxRecDepth 4000 in
set_option maxHeartbeats 4000000 in
/-- X5.step -/
theorem w2_53 {s : pS} (a1 : Int32) (ha1 : 0 ≤ a1.toInt ∧ a1.toInt ≤ 59) (H : mzH) (hI : gI SX H) (hJ : JX H) (hp0 : wdX H 28 s) (hp1 : laB s) (hp2 : kdB s) (hp3 : (0 ≤ (aZ H 26 (aZ H 27 a1.toInt.toNat).toInt.toNat).toInt ∧ (aZ H 26 (aZ H 27 a1.toInt.toNat).toInt.toNat).toInt ≤ 999)) (hp4 : (0 ≤ (aZ H 7 (aZ H 27 a1.toInt.toNat).toInt.toNat).toInt ∧ (aZ H 7 (aZ H 27 a1.toInt.toNat).toInt.toNat).toInt ≤ 10)) : gCall 53 [.ref 24, .int a1] H (gRi (fun v H' => gI SX H' ∧ JX H' ∧ fZ H' 1 1 = fZ H 1 1 ∧ kpN 29 34 H H' ∧ wdX H' 28 (lkS s (wyX H) (fZ H 3 10).toInt (fZ H 3 11).toInt (aZ H 7 (aZ H 27 a1.toInt.toNat).toInt.toNat).toInt (aZ H 8 (aZ H 27 a1.toInt.toNat).toInt.toNat).toInt.toNat (aZ H 9 (aZ H 27 a1.toInt.toNat).toInt.toNat).toInt (aZ H 10 (aZ H 27 a1.toInt.toNat).toInt.toNat).toInt (aZ H 26 (aZ H 27 a1.toInt.toNat).toInt.toNat).toInt) ∧ v.toInt = obj s (wyX H) (fZ H 3 10).toInt (fZ H 3 11).toInt (aZ H 7 (aZ H 27 a1.toInt.toNat).toInt.toNat).toInt (aZ H 8 (aZ H 27 a1.toInt.toNat).toInt.toNat).toInt.toNat (aZ H 9 (aZ H 27 a1.toInt.toNat).toInt.toNat).toInt (aZ H 26 (aZ H 27 a1.toInt.toNat).toInt.toNat).toInt)) := by
  obtain ⟨k1_1, ek1_1⟩ : ∃ z, z = fZ H 1 1 := ⟨_, rfl⟩
  have ik1_1 : k1_1.toInt = (fZ H 1 1).toInt := by rw [← ek1_1]
  have bk1_1 : 0 ≤ k1_1.toInt ∧ k1_1.toInt ≤ 900 := by rw [ek1_1]; exact fZ_of hI sx_1 rfl
  have mkfr : kpN 29 34 H H := kpN_r
  refine gG_call [(0, .ref 24), (1, .int a1)] ⟨rfl, rfl, trivial⟩ ?_
  show gG 2 zB_53 (mzBlk zB_53 0) [(0, .ref 24), (1, .int a1)] [] H 0 0 _
  refine g_aload_n rfl ?_
  refine g_gfr hI sx_24 rfl ?_
  refine g_aload_n rfl ?_
  refine g_gfr hI sx_24 rfl ?_
  refine g_aload_n rfl ?_
  refine g_gfr hI sx_24 rfl ?_
  refine g_gfr hI sx_25 rfl ?_
  refine g_iload_n rfl ?_
  refine g_iaload hI sx_27 rfl (by omega) (fun v57 ev57 lv57 uv57 => ?_)
  refine g_aload_n rfl ?_
  refine g_gfr hI sx_24 rfl ?_
  refine g_iload_n rfl ?_
  refine g_invvi hI sx_25 rfl rfl rfl rfl (w_27 25 zCo_25 a1 (by omega) H hI hJ) (fun v60 H58 r59 => ?_)
  obtain ⟨rfl, p61⟩ := r59
  have hbv60 : 0 ≤ v60.toInt ∧ v60.toInt ≤ 999 := by rw [p61]; exact hp3
  refine g_invvi hI sx_28 rfl rfl rfl rfl (w_93 28 zWo_28 v57 (by omega) v60 (by omega) H hI hJ hp0 hp1 hp2 (by rw [ev57]; exact hp4)) (fun v64 H62 r63 => ?_)
  obtain ⟨hIH62, hJH62, w65, m66, p67, p68⟩ := r63
  have e69 : k1_1 = fZ H62 1 1 := ek1_1.trans w65.symm
  have m70 : kpN 29 34 H H62 := kpN_t mkfr m66
  exact g_iret ⟨_, rfl, hIH62, hJH62, (e69.symm.trans ek1_1), m70, (by rw [← (show _ = (aZ H 26 (aZ H 27 a1.toInt.toNat).toInt.toNat).toInt from p61), ← ev57]; exact p67), (by rw [← (show _ = (aZ H 26 (aZ H 27 a1.toInt.toNat).toInt.toNat).toInt from p61), ← ev57]; exact p68)⟩
set_option maxRecDepth 4000 in
set_option maxHeartbeats 4000000 in
/-- X5.worldOfFirst -/
theorem w2_56  (a1 : Int32) (H : mzH) (hI : gI SX H) (hJ : JX H) (hp0 : gdY H) : gCall 56 [.ref 24, .int a1] H (gRa 28 (fun H' => gI SX H' ∧ JX H' ∧ fZ H' 1 1 = fZ H 1 1 ∧ kpN 29 34 H H' ∧ wdX H' 28 (rnH H (hoX H) ((olF (fZ H 25 2).toInt.toNat (odX H)).filter (fun j => decide ((j : Int) < a1.toInt)))))) := by
  obtain ⟨k1_1, ek1_1⟩ : ∃ z, z = fZ H 1 1 := ⟨_, rfl⟩
  have ik1_1 : k1_1.toInt = (fZ H 1 1).toInt := by rw [← ek1_1]
  have bk1_1 : 0 ≤ k1_1.toInt ∧ k1_1.toInt ≤ 900 := by rw [ek1_1]; exact fZ_of hI sx_1 rfl
  have mkfr : kpN 29 34 H H := kpN_r
  refine gG_call [(0, .ref 24), (1, .int a1)] ⟨rfl, rfl, trivial⟩ ?_
  show gG 3 zB_56 (mzBlk zB_56 0) [(0, .ref 24), (1, .int a1)] [] H 0 0 _
  refine g_aload_n rfl ?_
  refine g_gfr hI sx_24 rfl ?_
  refine g_invvv hI sx_28 rfl rfl rfl rfl (w_83 28 zWo_28 H hI hJ) (fun H257 r258 => ?_)
  obtain ⟨hIH257, hJH257, w259, m260, p261⟩ := r258
  have e262 : k1_1 = fZ H257 1 1 := ek1_1.trans w259.symm
  have m263 : kpN 29 34 H H257 := kpN_t mkfr m260
  refine g_iconst (by decide) (fun v264 kv264 => ?_)
  refine g_istore_n (l' := [(0, .ref 24), (1, .int a1), (2, .int v264)]) rfl rfl ?_
  refine g_nop ?_
  have L269 : ∀ (N : Nat) (v265 : Int32) (H266 : mzH), gI SX H266 → JX H266 → k1_1 = fZ H266 1 1 → kpN 29 34 H H266 → (0 ≤ v265.toInt ∧ v265.toInt ≤ 60) → v265.toInt ≤ (fZ H 25 2).toInt → wdX H266 28 (rnH H (hoX H) ((olF v265.toInt.toNat (odX H)).filter (fun j => decide ((j : Int) < a1.toInt)))) → (60 - v265.toInt).toNat < N → gG 3 zB_56 (mzBlk zB_56 1) [(0, .ref 24), (1, .int a1), (2, .int v265)] [] H266 0 0 (gRa 28 (fun H' => gI SX H' ∧ JX H' ∧ fZ H' 1 1 = fZ H 1 1 ∧ kpN 29 34 H H' ∧ wdX H' 28 (rnH H (hoX H) ((olF (fZ H 25 2).toInt.toNat (odX H)).filter (fun j => decide ((j : Int) < a1.toInt)))))) := by
    intro N
    induction N with
    | zero => intro v265 H266 hIH266 hJH266 e267 m268 bv265 q0 q1 hmL269; exact absurd hmL269 (Nat.not_lt_zero _)
    | succ N ihL269 =>
      intro v265 H266 hIH266 hJH266 e267 m268 bv265 q0 q1 hmL269
      refine g_iload_n rfl ?_
      refine g_aload_n rfl ?_
      refine g_gfr hIH266 sx_24 rfl ?_
      refine g_gfi hIH266 sx_25 rfl (fun v270 ev270 lv270 uv270 => ?_)
      have zv270 : v270.toInt = (fZ H 25 2).toInt := by rw [ev270, (m268 25 (by decide)).1]
      refine g_if2_ge (fun c271 => ?_) (fun c271 => ?_)
      · refine g_aload_n rfl ?_
        refine g_gfr hIH266 sx_24 rfl ?_
        exact g_aret ⟨rfl, hIH266, hJH266, (e267.symm.trans ek1_1), m268, (by rw [show (fZ H 25 2).toInt.toNat = v265.toInt.toNat by omega]; exact q1)⟩
      · refine g_aload_n rfl ?_
        refine g_gfr hIH266 sx_24 rfl ?_
        refine g_gfr hIH266 sx_25 rfl ?_
        refine g_iload_n rfl ?_
        refine g_iaload hIH266 sx_27 rfl (by omega) (fun v272 ev272 lv272 uv272 => ?_)
        have zv272 : v272.toInt.toNat = odX H v265.toInt.toNat := by rw [ev272, (m268 27 (by decide)).2]; rfl
        refine g_iload_n rfl ?_
        refine g_if2_ge (fun c273 => ?_) (fun c273 => ?_)
        · refine g_iinc (l' := (fun v274 => [(0, .ref 24), (1, .int a1), (2, .int v274)])) rfl rfl (by decide) (by omega) (fun _ => rfl) (fun v274 ev274 => ?_)
          refine g_goto ?_
          exact ihL269 v274 H266 hIH266 hJH266 e267 m268 (by omega) (by omega) (by rw [show v274.toInt.toNat = v265.toInt.toNat + 1 by omega, fl_n (by show ¬ decide _ = true; rw [decide_eq_true_eq]; omega)]; exact q1) (by omega)
        · refine g_aload_n rfl ?_
          refine g_iload_n rfl ?_
          refine g_invvi hIH266 sx_24 rfl rfl rfl rfl (w2_53 v265 (by omega) H266 hIH266 hJH266 q1 (wf_la (rn_fl hp0 (by omega))) (wf_kd (rn_fl hp0 (by omega))) (by rw [(m268 26 (by decide)).2, (m268 27 (by decide)).2]; exact (hp0.2.2 (odX H v265.toInt.toNat) (hp0.2.1 v265.toInt.toNat (by omega))).2.2.2.2.1) (by rw [(m268 7 (by decide)).2, (m268 27 (by decide)).2]; exact (hp0.2.2 (odX H v265.toInt.toNat) (hp0.2.1 v265.toInt.toNat (by omega))).1)) (fun v277 H275 r276 => ?_)
          obtain ⟨hIH275, hJH275, w278, m279, p280, p281⟩ := r276
          have e282 : k1_1 = fZ H275 1 1 := e267.trans w278.symm
          have m283 : kpN 29 34 H H275 := kpN_t m268 m279
          have wzv265 : wdX H275 28 (stH H (hoX H) (rnH H (hoX H) ((olF v265.toInt.toNat (odX H)).filter (fun j => decide ((j : Int) < a1.toInt)))) (odX H v265.toInt.toNat)) := gx_s3 (kpX_W (w := 28) (by decide) m268) p280
          refine g_pop rfl ?_
          refine g_nop ?_
          refine g_iinc (l' := (fun v284 => [(0, .ref 24), (1, .int a1), (2, .int v284)])) rfl rfl (by decide) (by omega) (fun _ => rfl) (fun v284 ev284 => ?_)
          refine g_goto ?_
          exact ihL269 v284 H275 hIH275 hJH275 e282 m283 (by omega) (by omega) (by rw [show v284.toInt.toNat = v265.toInt.toNat + 1 by omega]; exact wd_rn wzv265 (fl_y (by show decide _ = true; rw [decide_eq_true_eq]; omega))) (by omega)
  exact L269 _ v264 H257 hIH257 hJH257 e262 m263 (by omega) (by have := fZ_of hI sx_25 (f := 2) rfl; omega) (by rw [show v264.toInt.toNat = 0 by omega]; exact p261) (Nat.lt_succ_self _)
set_option maxRecDepth 4000 in
set_option maxHeartbeats 4000000 in
/-- X5.thingsChangedBy -/
theorem w_57  (a1 : Int32) (ha1 : 0 ≤ a1.toInt ∧ a1.toInt ≤ 59) (H : mzH) (hI : gI SX H) (hJ : JX H) (hp0 : gdY H) : gCall 57 [.ref 24, .int a1] H (gRi (fun v H' => gI SX H' ∧ JX H' ∧ fZ H' 1 1 = fZ H 1 1 ∧ kpX H H' ∧ v.toInt = cnt (fun x => ¬ whr (rnH H (hoX H) ((olF (fZ H 25 2).toInt.toNat (odX H)).filter (fun j => decide ((j : Int) < a1.toInt)))) x = whr (rnH H (hoX H) ((olF (fZ H 25 2).toInt.toNat (odX H)).filter (fun j => decide ((j : Int) < (a1.toInt + 1))))) x) 40)) := by
  obtain ⟨k1_1, ek1_1⟩ : ∃ z, z = fZ H 1 1 := ⟨_, rfl⟩
  have ik1_1 : k1_1.toInt = (fZ H 1 1).toInt := by rw [← ek1_1]
  have bk1_1 : 0 ≤ k1_1.toInt ∧ k1_1.toInt ≤ 900 := by rw [ek1_1]; exact fZ_of hI sx_1 rfl
  have mkfr : kpX H H := kpX_r
  refine gG_call [(0, .ref 24), (1, .int a1)] ⟨rfl, rfl, trivial⟩ ?_
  show gG 4 zB_57 (mzBlk zB_57 0) [(0, .ref 24), (1, .int a1)] [] H 0 0 _
  refine g_aload_n rfl ?_
  refine g_gfr hI sx_24 rfl ?_
  refine g_aload_n rfl ?_
  refine g_iload_n rfl ?_
  refine g_invva hI sx_24 rfl rfl rfl rfl (w2_56 a1 H hI hJ hp0) (fun H701 r702 => ?_)
  obtain ⟨hIH701, hJH701, w703, m704, p705⟩ := r702
  have e706 : k1_1 = fZ H701 1 1 := ek1_1.trans w703.symm
  have m707 : kpX H H701 := kpX_t mkfr (kpX_W (w := 28) (by decide) m704)
  have wa : wdX H701 28 (rnH H (hoX H) ((olF (fZ H 25 2).toInt.toNat (odX H)).filter (fun j => decide ((j : Int) < a1.toInt)))) := p705
  refine g_invvv hIH701 sx_35 rfl rfl rfl rfl (wb_35_28 H701 hIH701 hJH701 wa) (fun H708 r709 => ?_)
  obtain ⟨hIH708, hJH708, w710, m711, p712⟩ := r709
  have e713 : k1_1 = fZ H708 1 1 := e706.trans w710.symm
  have m714 : kpX H H708 := kpX_t m707 (kpX_W (w := 35) (by decide) m711)
  have wb : wdX H708 35 (rnH H (hoX H) ((olF (fZ H 25 2).toInt.toNat (odX H)).filter (fun j => decide ((j : Int) < a1.toInt)))) := p712
  refine g_aload_n rfl ?_
  refine g_iload_n rfl ?_
  refine g_iconst (by decide) (fun v715 kv715 => ?_)
  refine g_iadd (by omega) (fun v716 ev716 => ?_)
  refine g_invva hIH708 sx_24 rfl rfl rfl rfl (w2_56 v716 H708 hIH708 hJH708 (gdY_kp m714 hp0)) (fun H717 r718 => ?_)
  obtain ⟨hIH717, hJH717, w719, m720, p721⟩ := r718
  have e722 : k1_1 = fZ H717 1 1 := e713.trans w719.symm
  have m723 : kpX H H717 := kpX_t m714 (kpX_W (w := 28) (by decide) m720)
  have wc : wdX H717 28 (rnH H (hoX H) ((olF (fZ H 25 2).toInt.toNat (odX H)).filter (fun j => decide ((j : Int) < v716.toInt)))) := by have z := p721; rw [rn_kp m714] at z; exact z
  have wb2 : wdX H717 35 (rnH H (hoX H) ((olF (fZ H 25 2).toInt.toNat (odX H)).filter (fun j => decide ((j : Int) < a1.toInt)))) := wdX_n wb m720 (by decide)
  refine g_pop rfl ?_
  refine g_iconst (by decide) (fun v724 kv724 => ?_)
  refine g_istore_n (l' := [(0, .ref 24), (1, .int a1), (2, .int v724)]) rfl rfl ?_
  refine g_iconst (by decide) (fun v725 kv725 => ?_)
  refine g_istore_n (l' := [(0, .ref 24), (1, .int a1), (2, .int v724), (3, .int v725)]) rfl rfl ?_
  refine g_nop ?_
  have L728 : ∀ (N : Nat) (v726 : Int32) (v727 : Int32), (0 ≤ v727.toInt ∧ v727.toInt ≤ 40) → v726.toInt = cnt (fun x => ¬ whr (rnH H (hoX H) ((olF (fZ H 25 2).toInt.toNat (odX H)).filter (fun j => decide ((j : Int) < a1.toInt)))) x = whr (rnH H (hoX H) ((olF (fZ H 25 2).toInt.toNat (odX H)).filter (fun j => decide ((j : Int) < v716.toInt)))) x) v727.toInt.toNat → (0 ≤ v726.toInt ∧ v726.toInt ≤ v727.toInt) → (40 - v727.toInt).toNat < N → gG 4 zB_57 (mzBlk zB_57 1) [(0, .ref 24), (1, .int a1), (2, .int v726), (3, .int v727)] [] H717 0 0 (gRi (fun v H' => gI SX H' ∧ JX H' ∧ fZ H' 1 1 = fZ H 1 1 ∧ kpX H H' ∧ v.toInt = cnt (fun x => ¬ whr (rnH H (hoX H) ((olF (fZ H 25 2).toInt.toNat (odX H)).filter (fun j => decide ((j : Int) < a1.toInt)))) x = whr (rnH H (hoX H) ((olF (fZ H 25 2).toInt.toNat (odX H)).filter (fun j => decide ((j : Int) < (a1.toInt + 1))))) x) 40)) := by
    intro N
    induction N with
    | zero => intro v726 v727 bv727 q1 q2 hmL728; exact absurd hmL728 (Nat.not_lt_zero _)
    | succ N ihL728 =>
      intro v726 v727 bv727 q1 q2 hmL728
      refine g_iload_n rfl ?_
      refine g_bipush (by decide) (fun v729 kv729 => ?_)
      refine g_if2_ge (fun c730 => ?_) (fun c730 => ?_)
      · refine g_iload_n rfl ?_
        exact g_iret ⟨_, rfl, hIH717, hJH717, (e722.symm.trans ek1_1), m723, (by have z := q1; rw [show v727.toInt.toNat = 40 by omega, show v716.toInt = a1.toInt + 1 by omega] at z; exact z)⟩
      · refine g_iload_n rfl ?_
        refine g_aload_n rfl ?_
        refine g_gfr hIH717 sx_24 rfl ?_
        refine g_iload_n rfl ?_
        refine g_invvi hIH717 sx_35 rfl rfl rfl rfl (w_91 35 zWo_35 v727 (by omega) H717 hIH717 hJH717 wb2) (fun v733 H731 r732 => ?_)
        obtain ⟨rfl, p734⟩ := r732
        refine g_aload_n rfl ?_
        refine g_gfr hIH717 sx_24 rfl ?_
        refine g_iload_n rfl ?_
        refine g_invvi hIH717 sx_28 rfl rfl rfl rfl (w_91 28 zWo_28 v727 (by omega) H717 hIH717 hJH717 wc) (fun v737 H735 r736 => ?_)
        obtain ⟨rfl, p738⟩ := r736
        refine g_if2_eq (fun c739 => ?_) (fun c739 => ?_)
        · refine g_iconst (by decide) (fun v740 kv740 => ?_)
          refine g_nop ?_
          refine g_iadd (by have := gz_any v726; omega) (fun v741 ev741 => ?_)
          refine g_istore_n (l' := [(0, .ref 24), (1, .int a1), (2, .int v741), (3, .int v727)]) rfl rfl ?_
          refine g_iinc (l' := (fun v742 => [(0, .ref 24), (1, .int a1), (2, .int v741), (3, .int v742)])) rfl rfl (by decide) (by omega) (fun _ => rfl) (fun v742 ev742 => ?_)
          refine g_goto ?_
          exact ihL728 v741 v742 (by omega) (cn_n q1 (by omega) (by show ¬ ¬ whr (rnH H (hoX H) ((olF (fZ H 25 2).toInt.toNat (odX H)).filter (fun j => decide ((j : Int) < a1.toInt)))) v727.toInt.toNat = whr (rnH H (hoX H) ((olF (fZ H 25 2).toInt.toNat (odX H)).filter (fun j => decide ((j : Int) < v716.toInt)))) v727.toInt.toNat; omega) (by omega)) (by omega) (by omega)
        · refine g_iconst (by decide) (fun v743 kv743 => ?_)
          refine g_goto ?_
          refine g_iadd' (fun v744 ov744 => ?_)
          have sv744 : v744.toInt = v726.toInt + v743.toInt := gz_add_of ov744 (by omega)
          refine g_istore_n (l' := [(0, .ref 24), (1, .int a1), (2, .int v744), (3, .int v727)]) rfl rfl ?_
          refine g_iinc (l' := (fun v745 => [(0, .ref 24), (1, .int a1), (2, .int v744), (3, .int v745)])) rfl rfl (by decide) (by omega) (fun _ => rfl) (fun v745 ev745 => ?_)
          refine g_goto ?_
          exact ihL728 v744 v745 (by omega) (cn_y q1 (by omega) (by show ¬ whr (rnH H (hoX H) ((olF (fZ H 25 2).toInt.toNat (odX H)).filter (fun j => decide ((j : Int) < a1.toInt)))) v727.toInt.toNat = whr (rnH H (hoX H) ((olF (fZ H 25 2).toInt.toNat (odX H)).filter (fun j => decide ((j : Int) < v716.toInt)))) v727.toInt.toNat; omega) (by omega)) (by omega) (by omega)
  exact L728 _ v724 v725 (by omega) (cn_0 (by omega) (by omega)) (by omega) (Nat.lt_succ_self _)
set_option maxRecDepth 4000 in
set_option maxHeartbeats 4000000 in
/-- X9.changed -/
theorem w_126  (a1 : Int32) (H : mzH) (hI : gI SX H) (hJ : JX H) (hp0 : gdY H) : gCall 126 [.ref 0, .int a1] H (gRi (fun v H' => gI SX H' ∧ JX H' ∧ fZ H' 1 1 = fZ H 1 1 ∧ kpX H H' ∧ ((v.toInt = -1 ∧ ¬ (0 ≤ a1.toInt ∧ a1.toInt < (fZ H 3 9).toInt)) ∨ ((0 ≤ a1.toInt ∧ a1.toInt < (fZ H 3 9).toInt) ∧ v.toInt = cnt (fun x => ¬ whr (rnH H (hoX H) ((olF (fZ H 25 2).toInt.toNat (odX H)).filter (fun j => decide ((j : Int) < a1.toInt)))) x = whr (rnH H (hoX H) ((olF (fZ H 25 2).toInt.toNat (odX H)).filter (fun j => decide ((j : Int) < (a1.toInt + 1))))) x) 40)))) := by
  obtain ⟨k1_1, ek1_1⟩ : ∃ z, z = fZ H 1 1 := ⟨_, rfl⟩
  have ik1_1 : k1_1.toInt = (fZ H 1 1).toInt := by rw [← ek1_1]
  have bk1_1 : 0 ≤ k1_1.toInt ∧ k1_1.toInt ≤ 900 := by rw [ek1_1]; exact fZ_of hI sx_1 rfl
  have mkfr : kpX H H := kpX_r
  refine gG_call [(0, .ref 0), (1, .int a1)] ⟨rfl, rfl, trivial⟩ ?_
  show gG 2 zB_126 (mzBlk zB_126 0) [(0, .ref 0), (1, .int a1)] [] H 0 0 _
  refine g_aload_n rfl ?_
  refine g_gfr hI sx_0 rfl ?_
  refine g_iload_n rfl ?_
  refine g_invvi hI sx_3 rfl rfl rfl rfl (w_12 a1 H hI hJ) (fun v63 H61 r62 => ?_)
  obtain ⟨rfl, bv63, p64, p65⟩ := r62
  refine g_if_ne (fun c66 => ?_) (fun c66 => ?_)
  · refine g_aload_n rfl ?_
    refine g_gfr hI sx_0 rfl ?_
    refine g_iload_n rfl ?_
    refine g_invvi hI sx_24 rfl rfl rfl rfl (w_57 a1 (by omega) H hI hJ hp0) (fun v69 H67 r68 => ?_)
    obtain ⟨hIH67, hJH67, w70, m71, p72⟩ := r68
    have e73 : k1_1 = fZ H67 1 1 := ek1_1.trans w70.symm
    have m74 : kpX H H67 := kpX_t mkfr m71
    exact g_iret ⟨_, rfl, hIH67, hJH67, (e73.symm.trans ek1_1), m74, (Or.inr ⟨by omega, p72⟩)⟩
  · refine g_iconst (by decide) (fun v75 kv75 => ?_)
    exact g_iret ⟨_, rfl, hI, hJ, (ek1_1.symm.trans ek1_1), mkfr, (Or.inl ⟨by omega, by omega⟩)⟩
