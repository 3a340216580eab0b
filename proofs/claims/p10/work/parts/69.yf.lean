set_option maxRecDepth 4000 in
set_option maxHeartbeats 4000000 in
/-- X1.clear -/
theorem e_9 (H : mzH) (hI : gI SX H) (hJ : JX H) : gCall 9 [.ref 11] H (gRv (fun H' => gI SX H' ∧ JX H' ∧ fZ H' 1 1 = fZ H 1 1 ∧ kpN 11 18 H H' ∧ (fZ H' 11 7).toInt = 0 ∧ (fZ H' 11 8).toInt = 0 ∧ (fZ H' 11 9).toInt = 0 ∧ (fZ H' 11 10).toInt = 10 ∧ (fZ H' 11 11).toInt = 10 ∧ (fZ H' 11 12).toInt = 0)) := by
  obtain ⟨k1_1, ek1_1⟩ : ∃ z, z = fZ H 1 1 := ⟨_, rfl⟩
  have ik1_1 : k1_1.toInt = (fZ H 1 1).toInt := by rw [← ek1_1]
  have bk1_1 : 0 ≤ k1_1.toInt ∧ k1_1.toInt ≤ 900 := by rw [ek1_1]; exact fZ_of hI sx_1 rfl
  have mkfr : kpN 11 18 H H := kpN_r
  refine gG_call [(0, .ref 11)] ⟨rfl, trivial⟩ ?_
  show gG 1 zB_9 (mzBlk zB_9 0) [(0, .ref 11)] [] H 0 0 _
  refine g_aload_n rfl ?_
  refine g_iconst (by decide) (fun v229 kv229 => ?_)
  refine g_pfi hI sx_11 rfl (by omega) (fun H230 eH230 hIH230 => ?_)
  have hJH230 : JX H230 := JX_sF eH230 hJ
  have e231 : k1_1 = fZ H230 1 1 := by rw [eH230, fZ_sF_nc (by omega)]; exact ek1_1
  have e232 : v229 = fZ H230 11 7 := by rw [eH230, fZ_sF_eq hI sx_11 rfl]
  have m233 : kpN 11 18 H H230 := kpN_F mkfr eH230 (by omega)
  refine g_aload_n rfl ?_
  refine g_iconst (by decide) (fun v234 kv234 => ?_)
  refine g_pfi hIH230 sx_11 rfl (gz_any _) (fun H235 eH235 hIH235 => ?_)
  have hJH235 : JX H235 := JX_sF eH235 hJH230
  have e236 : k1_1 = fZ H235 1 1 := by rw [eH235, fZ_sF_nc (by omega)]; exact e231
  have e237 : v229 = fZ H235 11 7 := by rw [eH235, fZ_sF_ne (by decide)]; exact e232
  have e238 : v234 = fZ H235 11 8 := by rw [eH235, fZ_sF_eq hIH230 sx_11 rfl]
  have m239 : kpN 11 18 H H235 := kpN_F m233 eH235 (by omega)
  refine g_aload_n rfl ?_
  refine g_iconst (by decide) (fun v240 kv240 => ?_)
  refine g_pfi hIH235 sx_11 rfl (by omega) (fun H241 eH241 hIH241 => ?_)
  have hJH241 : JX H241 := JX_sF eH241 hJH235
  have e242 : k1_1 = fZ H241 1 1 := by rw [eH241, fZ_sF_nc (by omega)]; exact e236
  have e243 : v229 = fZ H241 11 7 := by rw [eH241, fZ_sF_ne (by decide)]; exact e237
  have e244 : v234 = fZ H241 11 8 := by rw [eH241, fZ_sF_ne (by decide)]; exact e238
  have e245 : v240 = fZ H241 11 9 := by rw [eH241, fZ_sF_eq hIH235 sx_11 rfl]
  have m246 : kpN 11 18 H H241 := kpN_F m239 eH241 (by omega)
  refine g_aload_n rfl ?_
  refine g_bipush (by decide) (fun v247 kv247 => ?_)
  refine g_pfi hIH241 sx_11 rfl (gz_any _) (fun H248 eH248 hIH248 => ?_)
  have hJH248 : JX H248 := JX_sF eH248 hJH241
  have e249 : k1_1 = fZ H248 1 1 := by rw [eH248, fZ_sF_nc (by omega)]; exact e242
  have e250 : v229 = fZ H248 11 7 := by rw [eH248, fZ_sF_ne (by decide)]; exact e243
  have e251 : v234 = fZ H248 11 8 := by rw [eH248, fZ_sF_ne (by decide)]; exact e244
  have e252 : v240 = fZ H248 11 9 := by rw [eH248, fZ_sF_ne (by decide)]; exact e245
  have e253 : v247 = fZ H248 11 10 := by rw [eH248, fZ_sF_eq hIH241 sx_11 rfl]
  have m254 : kpN 11 18 H H248 := kpN_F m246 eH248 (by omega)
  refine g_aload_n rfl ?_
  refine g_bipush (by decide) (fun v255 kv255 => ?_)
  refine g_pfi hIH248 sx_11 rfl (gz_any _) (fun H256 eH256 hIH256 => ?_)
  have hJH256 : JX H256 := JX_sF eH256 hJH248
  have e257 : k1_1 = fZ H256 1 1 := by rw [eH256, fZ_sF_nc (by omega)]; exact e249
  have e258 : v229 = fZ H256 11 7 := by rw [eH256, fZ_sF_ne (by decide)]; exact e250
  have e259 : v234 = fZ H256 11 8 := by rw [eH256, fZ_sF_ne (by decide)]; exact e251
  have e260 : v240 = fZ H256 11 9 := by rw [eH256, fZ_sF_ne (by decide)]; exact e252
  have e261 : v247 = fZ H256 11 10 := by rw [eH256, fZ_sF_ne (by decide)]; exact e253
  have e262 : v255 = fZ H256 11 11 := by rw [eH256, fZ_sF_eq hIH248 sx_11 rfl]
  have m263 : kpN 11 18 H H256 := kpN_F m254 eH256 (by omega)
  refine g_aload_n rfl ?_
  refine g_iconst (by decide) (fun v264 kv264 => ?_)
  refine g_pfz hIH256 sx_11 rfl (by omega) (fun H265 eH265 hIH265 => ?_)
  have hJH265 : JX H265 := JX_sF eH265 hJH256
  have e266 : k1_1 = fZ H265 1 1 := by rw [eH265, fZ_sF_nc (by omega)]; exact e257
  have e267 : v229 = fZ H265 11 7 := by rw [eH265, fZ_sF_ne (by decide)]; exact e258
  have e268 : v234 = fZ H265 11 8 := by rw [eH265, fZ_sF_ne (by decide)]; exact e259
  have e269 : v240 = fZ H265 11 9 := by rw [eH265, fZ_sF_ne (by decide)]; exact e260
  have e270 : v247 = fZ H265 11 10 := by rw [eH265, fZ_sF_ne (by decide)]; exact e261
  have e271 : v255 = fZ H265 11 11 := by rw [eH265, fZ_sF_ne (by decide)]; exact e262
  have e272 : v264 = fZ H265 11 12 := by rw [eH265, fZ_sF_eq hIH256 sx_11 rfl]
  have m273 : kpN 11 18 H H265 := kpN_F m263 eH265 (by omega)
  refine g_aload_n rfl ?_
  refine g_gfr hIH265 sx_11 rfl ?_
  refine g_bipush (by decide) (fun v274 kv274 => ?_)
  refine g_invtv rfl rfl rfl (s_fill 13 sx_13 (by decide) v274 (by omega) H265 hIH265) (fun H275 r276 => ?_)
  obtain ⟨hIH275, fH275, mH275, _⟩ := r276
  have hJH275 : JX H275 := JX_of hJH265 (fun k => ⟨mH275 (by omega), mH275 (by omega), mH275 (by omega), mH275 (by omega)⟩)
  have e278 : k1_1 = fZ H275 1 1 := e266.trans (fH275 _ _).symm
  have e279 : v229 = fZ H275 11 7 := e267.trans (fH275 _ _).symm
  have e280 : v234 = fZ H275 11 8 := e268.trans (fH275 _ _).symm
  have e281 : v240 = fZ H275 11 9 := e269.trans (fH275 _ _).symm
  have e282 : v247 = fZ H275 11 10 := e270.trans (fH275 _ _).symm
  have e283 : v255 = fZ H275 11 11 := e271.trans (fH275 _ _).symm
  have e284 : v264 = fZ H275 11 12 := e272.trans (fH275 _ _).symm
  have m285 : kpN 11 18 H H275 := kpN_t m273 (fun _ _ => ⟨fH275 _, fun _ => mH275 (by omega)⟩)
  exact g_ret ⟨rfl, hIH275, hJH275, (e278.symm.trans ek1_1), m285, (by rw [← e279]; omega), (by rw [← e280]; omega), (by rw [← e281]; omega), (by rw [← e282]; omega), (by rw [← e283]; omega), (by rw [← e284]; omega)⟩
set_option maxRecDepth 4000 in
set_option maxHeartbeats 4000000 in
/-- X1.become -/
theorem e_10a (H : mzH) (hI : gI SX H) (hJ : JX H) : gCall 10 [.ref 11, .ref 3] H (gRv (fun H' => gI SX H' ∧ JX H' ∧ fZ H' 1 1 = fZ H 1 1 ∧ kpN 11 18 H H' ∧ (∀ f, (f = 7 ∨ f = 8 ∨ f = 9 ∨ f = 10 ∨ f = 11 ∨ f = 12) → fZ H' 11 f = fZ H 3 f) ∧ (∀ k i, 1 ≤ k → k ≤ 7 → aZ H' (11 + k) i = aZ H (3 + k) i))) := by
  obtain ⟨k1_1, ek1_1⟩ : ∃ z, z = fZ H 1 1 := ⟨_, rfl⟩
  have ik1_1 : k1_1.toInt = (fZ H 1 1).toInt := by rw [← ek1_1]
  have bk1_1 : 0 ≤ k1_1.toInt ∧ k1_1.toInt ≤ 900 := by rw [ek1_1]; exact fZ_of hI sx_1 rfl
  obtain ⟨k3_7, ek3_7⟩ : ∃ z, z = fZ H 3 7 := ⟨_, rfl⟩
  have ik3_7 : k3_7.toInt = (fZ H 3 7).toInt := by rw [← ek3_7]
  have bk3_7 : 0 ≤ k3_7.toInt ∧ k3_7.toInt ≤ 8 := by rw [ek3_7]; exact fZ_of hI sx_3 rfl
  obtain ⟨k3_8, ek3_8⟩ : ∃ z, z = fZ H 3 8 := ⟨_, rfl⟩
  have ik3_8 : k3_8.toInt = (fZ H 3 8).toInt := by rw [← ek3_8]
  obtain ⟨k3_9, ek3_9⟩ : ∃ z, z = fZ H 3 9 := ⟨_, rfl⟩
  have ik3_9 : k3_9.toInt = (fZ H 3 9).toInt := by rw [← ek3_9]
  have bk3_9 : 0 ≤ k3_9.toInt ∧ k3_9.toInt ≤ 60 := by rw [ek3_9]; exact fZ_of hI sx_3 rfl
  obtain ⟨k3_10, ek3_10⟩ : ∃ z, z = fZ H 3 10 := ⟨_, rfl⟩
  have ik3_10 : k3_10.toInt = (fZ H 3 10).toInt := by rw [← ek3_10]
  obtain ⟨k3_11, ek3_11⟩ : ∃ z, z = fZ H 3 11 := ⟨_, rfl⟩
  have ik3_11 : k3_11.toInt = (fZ H 3 11).toInt := by rw [← ek3_11]
  obtain ⟨k3_12, ek3_12⟩ : ∃ z, z = fZ H 3 12 := ⟨_, rfl⟩
  have ik3_12 : k3_12.toInt = (fZ H 3 12).toInt := by rw [← ek3_12]
  have bk3_12 : 0 ≤ k3_12.toInt ∧ k3_12.toInt ≤ 1 := by rw [ek3_12]; exact fZ_of hI sx_3 rfl
  have mkfr : kpN 11 18 H H := kpN_r
  refine gG_call [(0, .ref 11), (1, .ref 3)] ⟨rfl, rfl, trivial⟩ ?_
  show gG 2 zB_10 (mzBlk zB_10 0) [(0, .ref 11), (1, .ref 3)] [] H 0 0 _
  refine g_aload_n rfl ?_
  refine g_gfr hI sx_3 rfl ?_
  refine g_iconst (by decide) (fun v637 kv637 => ?_)
  refine g_aload_n rfl ?_
  refine g_gfr hI sx_11 rfl ?_
  refine g_iconst (by decide) (fun v638 kv638 => ?_)
  refine g_bipush (by decide) (fun v639 kv639 => ?_)
  refine g_acp hI sx_12 sx_4 (by decide) (by decide) (by omega) (by omega) (by omega) rfl (fun H640 eH640 hIH640 => ?_)
  have e641 : k1_1 = fZ H640 1 1 := by rw [eH640, fZ_sC hI sx_12 sx_4]; exact ek1_1
  have e642 : k3_7 = fZ H640 3 7 := by rw [eH640, fZ_sC hI sx_12 sx_4]; exact ek3_7
  have e643 : k3_8 = fZ H640 3 8 := by rw [eH640, fZ_sC hI sx_12 sx_4]; exact ek3_8
  have e644 : k3_9 = fZ H640 3 9 := by rw [eH640, fZ_sC hI sx_12 sx_4]; exact ek3_9
  have e645 : k3_10 = fZ H640 3 10 := by rw [eH640, fZ_sC hI sx_12 sx_4]; exact ek3_10
  have e646 : k3_11 = fZ H640 3 11 := by rw [eH640, fZ_sC hI sx_12 sx_4]; exact ek3_11
  have e647 : k3_12 = fZ H640 3 12 := by rw [eH640, fZ_sC hI sx_12 sx_4]; exact ek3_12
  have m648 : kpN 11 18 H H640 := kpN_C hI sx_12 sx_4 mkfr eH640 (by omega)
  refine g_aload_n rfl ?_
  refine g_gfr hIH640 sx_3 rfl ?_
  refine g_iconst (by decide) (fun v649 kv649 => ?_)
  refine g_aload_n rfl ?_
  refine g_gfr hIH640 sx_11 rfl ?_
  refine g_iconst (by decide) (fun v650 kv650 => ?_)
  refine g_bipush (by decide) (fun v651 kv651 => ?_)
  refine g_acp hIH640 sx_13 sx_5 (by decide) (by decide) (by omega) (by omega) (by omega) rfl (fun H652 eH652 hIH652 => ?_)
  have e653 : k1_1 = fZ H652 1 1 := by rw [eH652, fZ_sC hIH640 sx_13 sx_5]; exact e641
  have e654 : k3_7 = fZ H652 3 7 := by rw [eH652, fZ_sC hIH640 sx_13 sx_5]; exact e642
  have e655 : k3_8 = fZ H652 3 8 := by rw [eH652, fZ_sC hIH640 sx_13 sx_5]; exact e643
  have e656 : k3_9 = fZ H652 3 9 := by rw [eH652, fZ_sC hIH640 sx_13 sx_5]; exact e644
  have e657 : k3_10 = fZ H652 3 10 := by rw [eH652, fZ_sC hIH640 sx_13 sx_5]; exact e645
  have e658 : k3_11 = fZ H652 3 11 := by rw [eH652, fZ_sC hIH640 sx_13 sx_5]; exact e646
  have e659 : k3_12 = fZ H652 3 12 := by rw [eH652, fZ_sC hIH640 sx_13 sx_5]; exact e647
  have m660 : kpN 11 18 H H652 := kpN_C hIH640 sx_13 sx_5 m648 eH652 (by omega)
  refine g_aload_n rfl ?_
  refine g_gfr hIH652 sx_3 rfl ?_
  refine g_iconst (by decide) (fun v661 kv661 => ?_)
  refine g_aload_n rfl ?_
  refine g_gfr hIH652 sx_11 rfl ?_
  refine g_iconst (by decide) (fun v662 kv662 => ?_)
  refine g_bipush (by decide) (fun v663 kv663 => ?_)
  refine g_acp hIH652 sx_14 sx_6 (by decide) (by decide) (by omega) (by omega) (by omega) rfl (fun H664 eH664 hIH664 => ?_)
  have e665 : k1_1 = fZ H664 1 1 := by rw [eH664, fZ_sC hIH652 sx_14 sx_6]; exact e653
  have e666 : k3_7 = fZ H664 3 7 := by rw [eH664, fZ_sC hIH652 sx_14 sx_6]; exact e654
  have e667 : k3_8 = fZ H664 3 8 := by rw [eH664, fZ_sC hIH652 sx_14 sx_6]; exact e655
  have e668 : k3_9 = fZ H664 3 9 := by rw [eH664, fZ_sC hIH652 sx_14 sx_6]; exact e656
  have e669 : k3_10 = fZ H664 3 10 := by rw [eH664, fZ_sC hIH652 sx_14 sx_6]; exact e657
  have e670 : k3_11 = fZ H664 3 11 := by rw [eH664, fZ_sC hIH652 sx_14 sx_6]; exact e658
  have e671 : k3_12 = fZ H664 3 12 := by rw [eH664, fZ_sC hIH652 sx_14 sx_6]; exact e659
  have m672 : kpN 11 18 H H664 := kpN_C hIH652 sx_14 sx_6 m660 eH664 (by omega)
  refine g_aload_n rfl ?_
  refine g_gfr hIH664 sx_3 rfl ?_
  refine g_iconst (by decide) (fun v673 kv673 => ?_)
  refine g_aload_n rfl ?_
  refine g_gfr hIH664 sx_11 rfl ?_
  refine g_iconst (by decide) (fun v674 kv674 => ?_)
  refine g_bipush (by decide) (fun v675 kv675 => ?_)
  refine g_acp hIH664 sx_15 sx_7 (by decide) (by decide) (by omega) (by omega) (by omega) rfl (fun H676 eH676 hIH676 => ?_)
  have e677 : k1_1 = fZ H676 1 1 := by rw [eH676, fZ_sC hIH664 sx_15 sx_7]; exact e665
  have e678 : k3_7 = fZ H676 3 7 := by rw [eH676, fZ_sC hIH664 sx_15 sx_7]; exact e666
  have e679 : k3_8 = fZ H676 3 8 := by rw [eH676, fZ_sC hIH664 sx_15 sx_7]; exact e667
  have e680 : k3_9 = fZ H676 3 9 := by rw [eH676, fZ_sC hIH664 sx_15 sx_7]; exact e668
  have e681 : k3_10 = fZ H676 3 10 := by rw [eH676, fZ_sC hIH664 sx_15 sx_7]; exact e669
  have e682 : k3_11 = fZ H676 3 11 := by rw [eH676, fZ_sC hIH664 sx_15 sx_7]; exact e670
  have e683 : k3_12 = fZ H676 3 12 := by rw [eH676, fZ_sC hIH664 sx_15 sx_7]; exact e671
  have m684 : kpN 11 18 H H676 := kpN_C hIH664 sx_15 sx_7 m672 eH676 (by omega)
  refine g_aload_n rfl ?_
  refine g_gfr hIH676 sx_3 rfl ?_
  refine g_iconst (by decide) (fun v685 kv685 => ?_)
  refine g_aload_n rfl ?_
  refine g_gfr hIH676 sx_11 rfl ?_
  refine g_iconst (by decide) (fun v686 kv686 => ?_)
  refine g_bipush (by decide) (fun v687 kv687 => ?_)
  refine g_acp hIH676 sx_16 sx_8 (by decide) (by decide) (by omega) (by omega) (by omega) rfl (fun H688 eH688 hIH688 => ?_)
  have e689 : k1_1 = fZ H688 1 1 := by rw [eH688, fZ_sC hIH676 sx_16 sx_8]; exact e677
  have e690 : k3_7 = fZ H688 3 7 := by rw [eH688, fZ_sC hIH676 sx_16 sx_8]; exact e678
  have e691 : k3_8 = fZ H688 3 8 := by rw [eH688, fZ_sC hIH676 sx_16 sx_8]; exact e679
  have e692 : k3_9 = fZ H688 3 9 := by rw [eH688, fZ_sC hIH676 sx_16 sx_8]; exact e680
  have e693 : k3_10 = fZ H688 3 10 := by rw [eH688, fZ_sC hIH676 sx_16 sx_8]; exact e681
  have e694 : k3_11 = fZ H688 3 11 := by rw [eH688, fZ_sC hIH676 sx_16 sx_8]; exact e682
  have e695 : k3_12 = fZ H688 3 12 := by rw [eH688, fZ_sC hIH676 sx_16 sx_8]; exact e683
  have m696 : kpN 11 18 H H688 := kpN_C hIH676 sx_16 sx_8 m684 eH688 (by omega)
  refine g_aload_n rfl ?_
  refine g_gfr hIH688 sx_3 rfl ?_
  refine g_iconst (by decide) (fun v697 kv697 => ?_)
  refine g_aload_n rfl ?_
  refine g_gfr hIH688 sx_11 rfl ?_
  refine g_iconst (by decide) (fun v698 kv698 => ?_)
  refine g_bipush (by decide) (fun v699 kv699 => ?_)
  refine g_acp hIH688 sx_17 sx_9 (by decide) (by decide) (by omega) (by omega) (by omega) rfl (fun H700 eH700 hIH700 => ?_)
  have e701 : k1_1 = fZ H700 1 1 := by rw [eH700, fZ_sC hIH688 sx_17 sx_9]; exact e689
  have e702 : k3_7 = fZ H700 3 7 := by rw [eH700, fZ_sC hIH688 sx_17 sx_9]; exact e690
  have e703 : k3_8 = fZ H700 3 8 := by rw [eH700, fZ_sC hIH688 sx_17 sx_9]; exact e691
  have e704 : k3_9 = fZ H700 3 9 := by rw [eH700, fZ_sC hIH688 sx_17 sx_9]; exact e692
  have e705 : k3_10 = fZ H700 3 10 := by rw [eH700, fZ_sC hIH688 sx_17 sx_9]; exact e693
  have e706 : k3_11 = fZ H700 3 11 := by rw [eH700, fZ_sC hIH688 sx_17 sx_9]; exact e694
  have e707 : k3_12 = fZ H700 3 12 := by rw [eH700, fZ_sC hIH688 sx_17 sx_9]; exact e695
  have m708 : kpN 11 18 H H700 := kpN_C hIH688 sx_17 sx_9 m696 eH700 (by omega)
  refine g_aload_n rfl ?_
  refine g_gfr hIH700 sx_3 rfl ?_
  refine g_iconst (by decide) (fun v709 kv709 => ?_)
  refine g_aload_n rfl ?_
  refine g_gfr hIH700 sx_11 rfl ?_
  refine g_iconst (by decide) (fun v710 kv710 => ?_)
  refine g_bipush (by decide) (fun v711 kv711 => ?_)
  refine g_acp hIH700 sx_18 sx_10 (by decide) (by decide) (by omega) (by omega) (by omega) rfl (fun H712 eH712 hIH712 => ?_)
  have e713 : k1_1 = fZ H712 1 1 := by rw [eH712, fZ_sC hIH700 sx_18 sx_10]; exact e701
  have e714 : k3_7 = fZ H712 3 7 := by rw [eH712, fZ_sC hIH700 sx_18 sx_10]; exact e702
  have e715 : k3_8 = fZ H712 3 8 := by rw [eH712, fZ_sC hIH700 sx_18 sx_10]; exact e703
  have e716 : k3_9 = fZ H712 3 9 := by rw [eH712, fZ_sC hIH700 sx_18 sx_10]; exact e704
  have e717 : k3_10 = fZ H712 3 10 := by rw [eH712, fZ_sC hIH700 sx_18 sx_10]; exact e705
  have e718 : k3_11 = fZ H712 3 11 := by rw [eH712, fZ_sC hIH700 sx_18 sx_10]; exact e706
  have e719 : k3_12 = fZ H712 3 12 := by rw [eH712, fZ_sC hIH700 sx_18 sx_10]; exact e707
  have m720 : kpN 11 18 H H712 := kpN_C hIH700 sx_18 sx_10 m708 eH712 (by omega)
  refine g_aload_n rfl ?_
  refine g_aload_n rfl ?_
  refine g_gfk hIH712 sx_3 rfl e714 ?_
  refine g_pfi hIH712 sx_11 rfl (by omega) (fun H721 eH721 hIH721 => ?_)
  have e722 : k1_1 = fZ H721 1 1 := by rw [eH721, fZ_sF_nc (by omega)]; exact e713
  have e723 : k3_7 = fZ H721 3 7 := by rw [eH721, fZ_sF_nc (by omega)]; exact e714
  have e724 : k3_8 = fZ H721 3 8 := by rw [eH721, fZ_sF_nc (by omega)]; exact e715
  have e725 : k3_9 = fZ H721 3 9 := by rw [eH721, fZ_sF_nc (by omega)]; exact e716
  have e726 : k3_10 = fZ H721 3 10 := by rw [eH721, fZ_sF_nc (by omega)]; exact e717
  have e727 : k3_11 = fZ H721 3 11 := by rw [eH721, fZ_sF_nc (by omega)]; exact e718
  have e728 : k3_12 = fZ H721 3 12 := by rw [eH721, fZ_sF_nc (by omega)]; exact e719
  have e729 : k3_7 = fZ H721 11 7 := by rw [eH721, fZ_sF_eq hIH712 sx_11 rfl]
  have m730 : kpN 11 18 H H721 := kpN_F m720 eH721 (by omega)
  refine g_aload_n rfl ?_
  refine g_aload_n rfl ?_
  refine g_gfk hIH721 sx_3 rfl e724 ?_
  refine g_pfi hIH721 sx_11 rfl (gz_any _) (fun H731 eH731 hIH731 => ?_)
  have e732 : k1_1 = fZ H731 1 1 := by rw [eH731, fZ_sF_nc (by omega)]; exact e722
  have e733 : k3_7 = fZ H731 3 7 := by rw [eH731, fZ_sF_nc (by omega)]; exact e723
  have e734 : k3_8 = fZ H731 3 8 := by rw [eH731, fZ_sF_nc (by omega)]; exact e724
  have e735 : k3_9 = fZ H731 3 9 := by rw [eH731, fZ_sF_nc (by omega)]; exact e725
  have e736 : k3_10 = fZ H731 3 10 := by rw [eH731, fZ_sF_nc (by omega)]; exact e726
  have e737 : k3_11 = fZ H731 3 11 := by rw [eH731, fZ_sF_nc (by omega)]; exact e727
  have e738 : k3_12 = fZ H731 3 12 := by rw [eH731, fZ_sF_nc (by omega)]; exact e728
  have e739 : k3_7 = fZ H731 11 7 := by rw [eH731, fZ_sF_ne (by decide)]; exact e729
  have e740 : k3_8 = fZ H731 11 8 := by rw [eH731, fZ_sF_eq hIH721 sx_11 rfl]
  have m741 : kpN 11 18 H H731 := kpN_F m730 eH731 (by omega)
  refine g_aload_n rfl ?_
  refine g_aload_n rfl ?_
  refine g_gfk hIH731 sx_3 rfl e735 ?_
  refine g_pfi hIH731 sx_11 rfl (by omega) (fun H742 eH742 hIH742 => ?_)
  have e743 : k1_1 = fZ H742 1 1 := by rw [eH742, fZ_sF_nc (by omega)]; exact e732
  have e744 : k3_7 = fZ H742 3 7 := by rw [eH742, fZ_sF_nc (by omega)]; exact e733
  have e745 : k3_8 = fZ H742 3 8 := by rw [eH742, fZ_sF_nc (by omega)]; exact e734
  have e746 : k3_9 = fZ H742 3 9 := by rw [eH742, fZ_sF_nc (by omega)]; exact e735
  have e747 : k3_10 = fZ H742 3 10 := by rw [eH742, fZ_sF_nc (by omega)]; exact e736
  have e748 : k3_11 = fZ H742 3 11 := by rw [eH742, fZ_sF_nc (by omega)]; exact e737
  have e749 : k3_12 = fZ H742 3 12 := by rw [eH742, fZ_sF_nc (by omega)]; exact e738
  have e750 : k3_7 = fZ H742 11 7 := by rw [eH742, fZ_sF_ne (by decide)]; exact e739
  have e751 : k3_8 = fZ H742 11 8 := by rw [eH742, fZ_sF_ne (by decide)]; exact e740
  have e752 : k3_9 = fZ H742 11 9 := by rw [eH742, fZ_sF_eq hIH731 sx_11 rfl]
  have m753 : kpN 11 18 H H742 := kpN_F m741 eH742 (by omega)
  refine g_aload_n rfl ?_
  refine g_aload_n rfl ?_
  refine g_gfk hIH742 sx_3 rfl e747 ?_
  refine g_pfi hIH742 sx_11 rfl (gz_any _) (fun H754 eH754 hIH754 => ?_)
  have e755 : k1_1 = fZ H754 1 1 := by rw [eH754, fZ_sF_nc (by omega)]; exact e743
  have e756 : k3_7 = fZ H754 3 7 := by rw [eH754, fZ_sF_nc (by omega)]; exact e744
  have e757 : k3_8 = fZ H754 3 8 := by rw [eH754, fZ_sF_nc (by omega)]; exact e745
  have e758 : k3_9 = fZ H754 3 9 := by rw [eH754, fZ_sF_nc (by omega)]; exact e746
  have e759 : k3_10 = fZ H754 3 10 := by rw [eH754, fZ_sF_nc (by omega)]; exact e747
  have e760 : k3_11 = fZ H754 3 11 := by rw [eH754, fZ_sF_nc (by omega)]; exact e748
  have e761 : k3_12 = fZ H754 3 12 := by rw [eH754, fZ_sF_nc (by omega)]; exact e749
  have e762 : k3_7 = fZ H754 11 7 := by rw [eH754, fZ_sF_ne (by decide)]; exact e750
  have e763 : k3_8 = fZ H754 11 8 := by rw [eH754, fZ_sF_ne (by decide)]; exact e751
  have e764 : k3_9 = fZ H754 11 9 := by rw [eH754, fZ_sF_ne (by decide)]; exact e752
  have e765 : k3_10 = fZ H754 11 10 := by rw [eH754, fZ_sF_eq hIH742 sx_11 rfl]
  have m766 : kpN 11 18 H H754 := kpN_F m753 eH754 (by omega)
  refine g_aload_n rfl ?_
  refine g_aload_n rfl ?_
  refine g_gfk hIH754 sx_3 rfl e760 ?_
  refine g_pfi hIH754 sx_11 rfl (gz_any _) (fun H767 eH767 hIH767 => ?_)
  have e768 : k1_1 = fZ H767 1 1 := by rw [eH767, fZ_sF_nc (by omega)]; exact e755
  have e769 : k3_7 = fZ H767 3 7 := by rw [eH767, fZ_sF_nc (by omega)]; exact e756
  have e770 : k3_8 = fZ H767 3 8 := by rw [eH767, fZ_sF_nc (by omega)]; exact e757
  have e771 : k3_9 = fZ H767 3 9 := by rw [eH767, fZ_sF_nc (by omega)]; exact e758
  have e772 : k3_10 = fZ H767 3 10 := by rw [eH767, fZ_sF_nc (by omega)]; exact e759
  have e773 : k3_11 = fZ H767 3 11 := by rw [eH767, fZ_sF_nc (by omega)]; exact e760
  have e774 : k3_12 = fZ H767 3 12 := by rw [eH767, fZ_sF_nc (by omega)]; exact e761
  have e775 : k3_7 = fZ H767 11 7 := by rw [eH767, fZ_sF_ne (by decide)]; exact e762
  have e776 : k3_8 = fZ H767 11 8 := by rw [eH767, fZ_sF_ne (by decide)]; exact e763
  have e777 : k3_9 = fZ H767 11 9 := by rw [eH767, fZ_sF_ne (by decide)]; exact e764
  have e778 : k3_10 = fZ H767 11 10 := by rw [eH767, fZ_sF_ne (by decide)]; exact e765
  have e779 : k3_11 = fZ H767 11 11 := by rw [eH767, fZ_sF_eq hIH754 sx_11 rfl]
  have m780 : kpN 11 18 H H767 := kpN_F m766 eH767 (by omega)
  refine g_aload_n rfl ?_
  refine g_aload_n rfl ?_
  refine g_gfk hIH767 sx_3 rfl e774 ?_
  refine g_pfz hIH767 sx_11 rfl (by omega) (fun H781 eH781 hIH781 => ?_)
  have e782 : k1_1 = fZ H781 1 1 := by rw [eH781, fZ_sF_nc (by omega)]; exact e768
  have e783 : k3_7 = fZ H781 3 7 := by rw [eH781, fZ_sF_nc (by omega)]; exact e769
  have e784 : k3_8 = fZ H781 3 8 := by rw [eH781, fZ_sF_nc (by omega)]; exact e770
  have e785 : k3_9 = fZ H781 3 9 := by rw [eH781, fZ_sF_nc (by omega)]; exact e771
  have e786 : k3_10 = fZ H781 3 10 := by rw [eH781, fZ_sF_nc (by omega)]; exact e772
  have e787 : k3_11 = fZ H781 3 11 := by rw [eH781, fZ_sF_nc (by omega)]; exact e773
  have e788 : k3_12 = fZ H781 3 12 := by rw [eH781, fZ_sF_nc (by omega)]; exact e774
  have e789 : k3_7 = fZ H781 11 7 := by rw [eH781, fZ_sF_ne (by decide)]; exact e775
  have e790 : k3_8 = fZ H781 11 8 := by rw [eH781, fZ_sF_ne (by decide)]; exact e776
  have e791 : k3_9 = fZ H781 11 9 := by rw [eH781, fZ_sF_ne (by decide)]; exact e777
  have e792 : k3_10 = fZ H781 11 10 := by rw [eH781, fZ_sF_ne (by decide)]; exact e778
  have e793 : k3_11 = fZ H781 11 11 := by rw [eH781, fZ_sF_ne (by decide)]; exact e779
  have e794 : k3_12 = fZ H781 11 12 := by rw [eH781, fZ_sF_eq hIH767 sx_11 rfl]
  have m795 : kpN 11 18 H H781 := kpN_F m780 eH781 (by omega)
  exact g_ret ⟨rfl, hIH781, (JX_bec (b := 11) (d := 3) (Or.inr rfl) (Or.inl rfl) hIH664 hIH688 hJ eH640 eH652 eH664 eH676 eH688 eH700 eH712 (fun x k => by rw [eH781, aZ_sF, eH767, aZ_sF, eH754, aZ_sF, eH742, aZ_sF, eH731, aZ_sF, eH721, aZ_sF])), (e782.symm.trans ek1_1), m795, (fun f hf => by rcases hf with rfl | rfl | rfl | rfl | rfl | rfl <;> first | exact e789.symm.trans ek3_7 | exact e790.symm.trans ek3_8 | exact e791.symm.trans ek3_9 | exact e792.symm.trans ek3_10 | exact e793.symm.trans ek3_11 | exact e794.symm.trans ek3_12), (fun k i h1 h2 => match k, h1, h2 with | 1, _, _ => (by show aZ H781 12 i = aZ H 4 i; rw [eH781, aZ_sF, eH767, aZ_sF, eH754, aZ_sF, eH742, aZ_sF, eH731, aZ_sF, eH721, aZ_sF, eH712, aZ_sC_nc (by decide), eH700, aZ_sC_nc (by decide), eH688, aZ_sC_nc (by decide), eH676, aZ_sC_nc (by decide), eH664, aZ_sC_nc (by decide), eH652, aZ_sC_nc (by decide), eH640, aZ_sC_eq hI sx_12 sx_4]) | 2, _, _ => (by show aZ H781 13 i = aZ H 5 i; rw [eH781, aZ_sF, eH767, aZ_sF, eH754, aZ_sF, eH742, aZ_sF, eH731, aZ_sF, eH721, aZ_sF, eH712, aZ_sC_nc (by decide), eH700, aZ_sC_nc (by decide), eH688, aZ_sC_nc (by decide), eH676, aZ_sC_nc (by decide), eH664, aZ_sC_nc (by decide), eH652, aZ_sC_eq hIH640 sx_13 sx_5, eH640, aZ_sC_nc (by decide)]) | 3, _, _ => (by show aZ H781 14 i = aZ H 6 i; rw [eH781, aZ_sF, eH767, aZ_sF, eH754, aZ_sF, eH742, aZ_sF, eH731, aZ_sF, eH721, aZ_sF, eH712, aZ_sC_nc (by decide), eH700, aZ_sC_nc (by decide), eH688, aZ_sC_nc (by decide), eH676, aZ_sC_nc (by decide), eH664, aZ_sC_eq hIH652 sx_14 sx_6, eH652, aZ_sC_nc (by decide), eH640, aZ_sC_nc (by decide)]) | 4, _, _ => (by show aZ H781 15 i = aZ H 7 i; rw [eH781, aZ_sF, eH767, aZ_sF, eH754, aZ_sF, eH742, aZ_sF, eH731, aZ_sF, eH721, aZ_sF, eH712, aZ_sC_nc (by decide), eH700, aZ_sC_nc (by decide), eH688, aZ_sC_nc (by decide), eH676, aZ_sC_eq hIH664 sx_15 sx_7, eH664, aZ_sC_nc (by decide), eH652, aZ_sC_nc (by decide), eH640, aZ_sC_nc (by decide)]) | 5, _, _ => (by show aZ H781 16 i = aZ H 8 i; rw [eH781, aZ_sF, eH767, aZ_sF, eH754, aZ_sF, eH742, aZ_sF, eH731, aZ_sF, eH721, aZ_sF, eH712, aZ_sC_nc (by decide), eH700, aZ_sC_nc (by decide), eH688, aZ_sC_eq hIH676 sx_16 sx_8, eH676, aZ_sC_nc (by decide), eH664, aZ_sC_nc (by decide), eH652, aZ_sC_nc (by decide), eH640, aZ_sC_nc (by decide)]) | 6, _, _ => (by show aZ H781 17 i = aZ H 9 i; rw [eH781, aZ_sF, eH767, aZ_sF, eH754, aZ_sF, eH742, aZ_sF, eH731, aZ_sF, eH721, aZ_sF, eH712, aZ_sC_nc (by decide), eH700, aZ_sC_eq hIH688 sx_17 sx_9, eH688, aZ_sC_nc (by decide), eH676, aZ_sC_nc (by decide), eH664, aZ_sC_nc (by decide), eH652, aZ_sC_nc (by decide), eH640, aZ_sC_nc (by decide)]) | 7, _, _ => (by show aZ H781 18 i = aZ H 10 i; rw [eH781, aZ_sF, eH767, aZ_sF, eH754, aZ_sF, eH742, aZ_sF, eH731, aZ_sF, eH721, aZ_sF, eH712, aZ_sC_eq hIH700 sx_18 sx_10, eH700, aZ_sC_nc (by decide), eH688, aZ_sC_nc (by decide), eH676, aZ_sC_nc (by decide), eH664, aZ_sC_nc (by decide), eH652, aZ_sC_nc (by decide), eH640, aZ_sC_nc (by decide)]) | 0, h1, _ => absurd h1 (by decide) | k + 8, _, h2 => absurd h2 (by omega))⟩
set_option maxRecDepth 4000 in
set_option maxHeartbeats 4000000 in
/-- X1.become -/
theorem e_10b (H : mzH) (hI : gI SX H) (hJ : JX H) : gCall 10 [.ref 3, .ref 11] H (gRv (fun H' => gI SX H' ∧ JX H' ∧ fZ H' 1 1 = fZ H 1 1 ∧ kpN 3 10 H H' ∧ (∀ f, (f = 7 ∨ f = 8 ∨ f = 9 ∨ f = 10 ∨ f = 11 ∨ f = 12) → fZ H' 3 f = fZ H 11 f) ∧ (∀ k i, 1 ≤ k → k ≤ 7 → aZ H' (3 + k) i = aZ H (11 + k) i))) := by
  obtain ⟨k1_1, ek1_1⟩ : ∃ z, z = fZ H 1 1 := ⟨_, rfl⟩
  have ik1_1 : k1_1.toInt = (fZ H 1 1).toInt := by rw [← ek1_1]
  have bk1_1 : 0 ≤ k1_1.toInt ∧ k1_1.toInt ≤ 900 := by rw [ek1_1]; exact fZ_of hI sx_1 rfl
  obtain ⟨k11_7, ek11_7⟩ : ∃ z, z = fZ H 11 7 := ⟨_, rfl⟩
  have ik11_7 : k11_7.toInt = (fZ H 11 7).toInt := by rw [← ek11_7]
  have bk11_7 : 0 ≤ k11_7.toInt ∧ k11_7.toInt ≤ 8 := by rw [ek11_7]; exact fZ_of hI sx_11 rfl
  obtain ⟨k11_8, ek11_8⟩ : ∃ z, z = fZ H 11 8 := ⟨_, rfl⟩
  have ik11_8 : k11_8.toInt = (fZ H 11 8).toInt := by rw [← ek11_8]
  obtain ⟨k11_9, ek11_9⟩ : ∃ z, z = fZ H 11 9 := ⟨_, rfl⟩
  have ik11_9 : k11_9.toInt = (fZ H 11 9).toInt := by rw [← ek11_9]
  have bk11_9 : 0 ≤ k11_9.toInt ∧ k11_9.toInt ≤ 60 := by rw [ek11_9]; exact fZ_of hI sx_11 rfl
  obtain ⟨k11_10, ek11_10⟩ : ∃ z, z = fZ H 11 10 := ⟨_, rfl⟩
  have ik11_10 : k11_10.toInt = (fZ H 11 10).toInt := by rw [← ek11_10]
  obtain ⟨k11_11, ek11_11⟩ : ∃ z, z = fZ H 11 11 := ⟨_, rfl⟩
  have ik11_11 : k11_11.toInt = (fZ H 11 11).toInt := by rw [← ek11_11]
  obtain ⟨k11_12, ek11_12⟩ : ∃ z, z = fZ H 11 12 := ⟨_, rfl⟩
  have ik11_12 : k11_12.toInt = (fZ H 11 12).toInt := by rw [← ek11_12]
  have bk11_12 : 0 ≤ k11_12.toInt ∧ k11_12.toInt ≤ 1 := by rw [ek11_12]; exact fZ_of hI sx_11 rfl
  have mkfr : kpN 3 10 H H := kpN_r
  refine gG_call [(0, .ref 3), (1, .ref 11)] ⟨rfl, rfl, trivial⟩ ?_
  show gG 2 zB_10 (mzBlk zB_10 0) [(0, .ref 3), (1, .ref 11)] [] H 0 0 _
  refine g_aload_n rfl ?_
  refine g_gfr hI sx_11 rfl ?_
  refine g_iconst (by decide) (fun v637 kv637 => ?_)
  refine g_aload_n rfl ?_
  refine g_gfr hI sx_3 rfl ?_
  refine g_iconst (by decide) (fun v638 kv638 => ?_)
  refine g_bipush (by decide) (fun v639 kv639 => ?_)
  refine g_acp hI sx_4 sx_12 (by decide) (by decide) (by omega) (by omega) (by omega) rfl (fun H640 eH640 hIH640 => ?_)
  have e641 : k1_1 = fZ H640 1 1 := by rw [eH640, fZ_sC hI sx_4 sx_12]; exact ek1_1
  have e642 : k11_7 = fZ H640 11 7 := by rw [eH640, fZ_sC hI sx_4 sx_12]; exact ek11_7
  have e643 : k11_8 = fZ H640 11 8 := by rw [eH640, fZ_sC hI sx_4 sx_12]; exact ek11_8
  have e644 : k11_9 = fZ H640 11 9 := by rw [eH640, fZ_sC hI sx_4 sx_12]; exact ek11_9
  have e645 : k11_10 = fZ H640 11 10 := by rw [eH640, fZ_sC hI sx_4 sx_12]; exact ek11_10
  have e646 : k11_11 = fZ H640 11 11 := by rw [eH640, fZ_sC hI sx_4 sx_12]; exact ek11_11
  have e647 : k11_12 = fZ H640 11 12 := by rw [eH640, fZ_sC hI sx_4 sx_12]; exact ek11_12
  have m648 : kpN 3 10 H H640 := kpN_C hI sx_4 sx_12 mkfr eH640 (by omega)
  refine g_aload_n rfl ?_
  refine g_gfr hIH640 sx_11 rfl ?_
  refine g_iconst (by decide) (fun v649 kv649 => ?_)
  refine g_aload_n rfl ?_
  refine g_gfr hIH640 sx_3 rfl ?_
  refine g_iconst (by decide) (fun v650 kv650 => ?_)
  refine g_bipush (by decide) (fun v651 kv651 => ?_)
  refine g_acp hIH640 sx_5 sx_13 (by decide) (by decide) (by omega) (by omega) (by omega) rfl (fun H652 eH652 hIH652 => ?_)
  have e653 : k1_1 = fZ H652 1 1 := by rw [eH652, fZ_sC hIH640 sx_5 sx_13]; exact e641
  have e654 : k11_7 = fZ H652 11 7 := by rw [eH652, fZ_sC hIH640 sx_5 sx_13]; exact e642
  have e655 : k11_8 = fZ H652 11 8 := by rw [eH652, fZ_sC hIH640 sx_5 sx_13]; exact e643
  have e656 : k11_9 = fZ H652 11 9 := by rw [eH652, fZ_sC hIH640 sx_5 sx_13]; exact e644
  have e657 : k11_10 = fZ H652 11 10 := by rw [eH652, fZ_sC hIH640 sx_5 sx_13]; exact e645
  have e658 : k11_11 = fZ H652 11 11 := by rw [eH652, fZ_sC hIH640 sx_5 sx_13]; exact e646
  have e659 : k11_12 = fZ H652 11 12 := by rw [eH652, fZ_sC hIH640 sx_5 sx_13]; exact e647
  have m660 : kpN 3 10 H H652 := kpN_C hIH640 sx_5 sx_13 m648 eH652 (by omega)
  refine g_aload_n rfl ?_
  refine g_gfr hIH652 sx_11 rfl ?_
  refine g_iconst (by decide) (fun v661 kv661 => ?_)
  refine g_aload_n rfl ?_
  refine g_gfr hIH652 sx_3 rfl ?_
  refine g_iconst (by decide) (fun v662 kv662 => ?_)
  refine g_bipush (by decide) (fun v663 kv663 => ?_)
  refine g_acp hIH652 sx_6 sx_14 (by decide) (by decide) (by omega) (by omega) (by omega) rfl (fun H664 eH664 hIH664 => ?_)
  have e665 : k1_1 = fZ H664 1 1 := by rw [eH664, fZ_sC hIH652 sx_6 sx_14]; exact e653
  have e666 : k11_7 = fZ H664 11 7 := by rw [eH664, fZ_sC hIH652 sx_6 sx_14]; exact e654
  have e667 : k11_8 = fZ H664 11 8 := by rw [eH664, fZ_sC hIH652 sx_6 sx_14]; exact e655
  have e668 : k11_9 = fZ H664 11 9 := by rw [eH664, fZ_sC hIH652 sx_6 sx_14]; exact e656
  have e669 : k11_10 = fZ H664 11 10 := by rw [eH664, fZ_sC hIH652 sx_6 sx_14]; exact e657
  have e670 : k11_11 = fZ H664 11 11 := by rw [eH664, fZ_sC hIH652 sx_6 sx_14]; exact e658
  have e671 : k11_12 = fZ H664 11 12 := by rw [eH664, fZ_sC hIH652 sx_6 sx_14]; exact e659
  have m672 : kpN 3 10 H H664 := kpN_C hIH652 sx_6 sx_14 m660 eH664 (by omega)
  refine g_aload_n rfl ?_
  refine g_gfr hIH664 sx_11 rfl ?_
  refine g_iconst (by decide) (fun v673 kv673 => ?_)
  refine g_aload_n rfl ?_
  refine g_gfr hIH664 sx_3 rfl ?_
  refine g_iconst (by decide) (fun v674 kv674 => ?_)
  refine g_bipush (by decide) (fun v675 kv675 => ?_)
  refine g_acp hIH664 sx_7 sx_15 (by decide) (by decide) (by omega) (by omega) (by omega) rfl (fun H676 eH676 hIH676 => ?_)
  have e677 : k1_1 = fZ H676 1 1 := by rw [eH676, fZ_sC hIH664 sx_7 sx_15]; exact e665
  have e678 : k11_7 = fZ H676 11 7 := by rw [eH676, fZ_sC hIH664 sx_7 sx_15]; exact e666
  have e679 : k11_8 = fZ H676 11 8 := by rw [eH676, fZ_sC hIH664 sx_7 sx_15]; exact e667
  have e680 : k11_9 = fZ H676 11 9 := by rw [eH676, fZ_sC hIH664 sx_7 sx_15]; exact e668
  have e681 : k11_10 = fZ H676 11 10 := by rw [eH676, fZ_sC hIH664 sx_7 sx_15]; exact e669
  have e682 : k11_11 = fZ H676 11 11 := by rw [eH676, fZ_sC hIH664 sx_7 sx_15]; exact e670
  have e683 : k11_12 = fZ H676 11 12 := by rw [eH676, fZ_sC hIH664 sx_7 sx_15]; exact e671
  have m684 : kpN 3 10 H H676 := kpN_C hIH664 sx_7 sx_15 m672 eH676 (by omega)
  refine g_aload_n rfl ?_
  refine g_gfr hIH676 sx_11 rfl ?_
  refine g_iconst (by decide) (fun v685 kv685 => ?_)
  refine g_aload_n rfl ?_
  refine g_gfr hIH676 sx_3 rfl ?_
  refine g_iconst (by decide) (fun v686 kv686 => ?_)
  refine g_bipush (by decide) (fun v687 kv687 => ?_)
  refine g_acp hIH676 sx_8 sx_16 (by decide) (by decide) (by omega) (by omega) (by omega) rfl (fun H688 eH688 hIH688 => ?_)
  have e689 : k1_1 = fZ H688 1 1 := by rw [eH688, fZ_sC hIH676 sx_8 sx_16]; exact e677
  have e690 : k11_7 = fZ H688 11 7 := by rw [eH688, fZ_sC hIH676 sx_8 sx_16]; exact e678
  have e691 : k11_8 = fZ H688 11 8 := by rw [eH688, fZ_sC hIH676 sx_8 sx_16]; exact e679
  have e692 : k11_9 = fZ H688 11 9 := by rw [eH688, fZ_sC hIH676 sx_8 sx_16]; exact e680
  have e693 : k11_10 = fZ H688 11 10 := by rw [eH688, fZ_sC hIH676 sx_8 sx_16]; exact e681
  have e694 : k11_11 = fZ H688 11 11 := by rw [eH688, fZ_sC hIH676 sx_8 sx_16]; exact e682
  have e695 : k11_12 = fZ H688 11 12 := by rw [eH688, fZ_sC hIH676 sx_8 sx_16]; exact e683
  have m696 : kpN 3 10 H H688 := kpN_C hIH676 sx_8 sx_16 m684 eH688 (by omega)
  refine g_aload_n rfl ?_
  refine g_gfr hIH688 sx_11 rfl ?_
  refine g_iconst (by decide) (fun v697 kv697 => ?_)
  refine g_aload_n rfl ?_
  refine g_gfr hIH688 sx_3 rfl ?_
  refine g_iconst (by decide) (fun v698 kv698 => ?_)
  refine g_bipush (by decide) (fun v699 kv699 => ?_)
  refine g_acp hIH688 sx_9 sx_17 (by decide) (by decide) (by omega) (by omega) (by omega) rfl (fun H700 eH700 hIH700 => ?_)
  have e701 : k1_1 = fZ H700 1 1 := by rw [eH700, fZ_sC hIH688 sx_9 sx_17]; exact e689
  have e702 : k11_7 = fZ H700 11 7 := by rw [eH700, fZ_sC hIH688 sx_9 sx_17]; exact e690
  have e703 : k11_8 = fZ H700 11 8 := by rw [eH700, fZ_sC hIH688 sx_9 sx_17]; exact e691
  have e704 : k11_9 = fZ H700 11 9 := by rw [eH700, fZ_sC hIH688 sx_9 sx_17]; exact e692
  have e705 : k11_10 = fZ H700 11 10 := by rw [eH700, fZ_sC hIH688 sx_9 sx_17]; exact e693
  have e706 : k11_11 = fZ H700 11 11 := by rw [eH700, fZ_sC hIH688 sx_9 sx_17]; exact e694
  have e707 : k11_12 = fZ H700 11 12 := by rw [eH700, fZ_sC hIH688 sx_9 sx_17]; exact e695
  have m708 : kpN 3 10 H H700 := kpN_C hIH688 sx_9 sx_17 m696 eH700 (by omega)
  refine g_aload_n rfl ?_
  refine g_gfr hIH700 sx_11 rfl ?_
  refine g_iconst (by decide) (fun v709 kv709 => ?_)
  refine g_aload_n rfl ?_
  refine g_gfr hIH700 sx_3 rfl ?_
  refine g_iconst (by decide) (fun v710 kv710 => ?_)
  refine g_bipush (by decide) (fun v711 kv711 => ?_)
  refine g_acp hIH700 sx_10 sx_18 (by decide) (by decide) (by omega) (by omega) (by omega) rfl (fun H712 eH712 hIH712 => ?_)
  have e713 : k1_1 = fZ H712 1 1 := by rw [eH712, fZ_sC hIH700 sx_10 sx_18]; exact e701
  have e714 : k11_7 = fZ H712 11 7 := by rw [eH712, fZ_sC hIH700 sx_10 sx_18]; exact e702
  have e715 : k11_8 = fZ H712 11 8 := by rw [eH712, fZ_sC hIH700 sx_10 sx_18]; exact e703
  have e716 : k11_9 = fZ H712 11 9 := by rw [eH712, fZ_sC hIH700 sx_10 sx_18]; exact e704
  have e717 : k11_10 = fZ H712 11 10 := by rw [eH712, fZ_sC hIH700 sx_10 sx_18]; exact e705
  have e718 : k11_11 = fZ H712 11 11 := by rw [eH712, fZ_sC hIH700 sx_10 sx_18]; exact e706
  have e719 : k11_12 = fZ H712 11 12 := by rw [eH712, fZ_sC hIH700 sx_10 sx_18]; exact e707
  have m720 : kpN 3 10 H H712 := kpN_C hIH700 sx_10 sx_18 m708 eH712 (by omega)
  refine g_aload_n rfl ?_
  refine g_aload_n rfl ?_
  refine g_gfk hIH712 sx_11 rfl e714 ?_
  refine g_pfi hIH712 sx_3 rfl (by omega) (fun H721 eH721 hIH721 => ?_)
  have e722 : k1_1 = fZ H721 1 1 := by rw [eH721, fZ_sF_nc (by omega)]; exact e713
  have e723 : k11_7 = fZ H721 11 7 := by rw [eH721, fZ_sF_nc (by omega)]; exact e714
  have e724 : k11_8 = fZ H721 11 8 := by rw [eH721, fZ_sF_nc (by omega)]; exact e715
  have e725 : k11_9 = fZ H721 11 9 := by rw [eH721, fZ_sF_nc (by omega)]; exact e716
  have e726 : k11_10 = fZ H721 11 10 := by rw [eH721, fZ_sF_nc (by omega)]; exact e717
  have e727 : k11_11 = fZ H721 11 11 := by rw [eH721, fZ_sF_nc (by omega)]; exact e718
  have e728 : k11_12 = fZ H721 11 12 := by rw [eH721, fZ_sF_nc (by omega)]; exact e719
  have e729 : k11_7 = fZ H721 3 7 := by rw [eH721, fZ_sF_eq hIH712 sx_3 rfl]
  have m730 : kpN 3 10 H H721 := kpN_F m720 eH721 (by omega)
  refine g_aload_n rfl ?_
  refine g_aload_n rfl ?_
  refine g_gfk hIH721 sx_11 rfl e724 ?_
  refine g_pfi hIH721 sx_3 rfl (gz_any _) (fun H731 eH731 hIH731 => ?_)
  have e732 : k1_1 = fZ H731 1 1 := by rw [eH731, fZ_sF_nc (by omega)]; exact e722
  have e733 : k11_7 = fZ H731 11 7 := by rw [eH731, fZ_sF_nc (by omega)]; exact e723
  have e734 : k11_8 = fZ H731 11 8 := by rw [eH731, fZ_sF_nc (by omega)]; exact e724
  have e735 : k11_9 = fZ H731 11 9 := by rw [eH731, fZ_sF_nc (by omega)]; exact e725
  have e736 : k11_10 = fZ H731 11 10 := by rw [eH731, fZ_sF_nc (by omega)]; exact e726
  have e737 : k11_11 = fZ H731 11 11 := by rw [eH731, fZ_sF_nc (by omega)]; exact e727
  have e738 : k11_12 = fZ H731 11 12 := by rw [eH731, fZ_sF_nc (by omega)]; exact e728
  have e739 : k11_7 = fZ H731 3 7 := by rw [eH731, fZ_sF_ne (by decide)]; exact e729
  have e740 : k11_8 = fZ H731 3 8 := by rw [eH731, fZ_sF_eq hIH721 sx_3 rfl]
  have m741 : kpN 3 10 H H731 := kpN_F m730 eH731 (by omega)
  refine g_aload_n rfl ?_
  refine g_aload_n rfl ?_
  refine g_gfk hIH731 sx_11 rfl e735 ?_
  refine g_pfi hIH731 sx_3 rfl (by omega) (fun H742 eH742 hIH742 => ?_)
  have e743 : k1_1 = fZ H742 1 1 := by rw [eH742, fZ_sF_nc (by omega)]; exact e732
  have e744 : k11_7 = fZ H742 11 7 := by rw [eH742, fZ_sF_nc (by omega)]; exact e733
  have e745 : k11_8 = fZ H742 11 8 := by rw [eH742, fZ_sF_nc (by omega)]; exact e734
  have e746 : k11_9 = fZ H742 11 9 := by rw [eH742, fZ_sF_nc (by omega)]; exact e735
  have e747 : k11_10 = fZ H742 11 10 := by rw [eH742, fZ_sF_nc (by omega)]; exact e736
  have e748 : k11_11 = fZ H742 11 11 := by rw [eH742, fZ_sF_nc (by omega)]; exact e737
  have e749 : k11_12 = fZ H742 11 12 := by rw [eH742, fZ_sF_nc (by omega)]; exact e738
  have e750 : k11_7 = fZ H742 3 7 := by rw [eH742, fZ_sF_ne (by decide)]; exact e739
  have e751 : k11_8 = fZ H742 3 8 := by rw [eH742, fZ_sF_ne (by decide)]; exact e740
  have e752 : k11_9 = fZ H742 3 9 := by rw [eH742, fZ_sF_eq hIH731 sx_3 rfl]
  have m753 : kpN 3 10 H H742 := kpN_F m741 eH742 (by omega)
  refine g_aload_n rfl ?_
  refine g_aload_n rfl ?_
  refine g_gfk hIH742 sx_11 rfl e747 ?_
  refine g_pfi hIH742 sx_3 rfl (gz_any _) (fun H754 eH754 hIH754 => ?_)
  have e755 : k1_1 = fZ H754 1 1 := by rw [eH754, fZ_sF_nc (by omega)]; exact e743
  have e756 : k11_7 = fZ H754 11 7 := by rw [eH754, fZ_sF_nc (by omega)]; exact e744
  have e757 : k11_8 = fZ H754 11 8 := by rw [eH754, fZ_sF_nc (by omega)]; exact e745
  have e758 : k11_9 = fZ H754 11 9 := by rw [eH754, fZ_sF_nc (by omega)]; exact e746
  have e759 : k11_10 = fZ H754 11 10 := by rw [eH754, fZ_sF_nc (by omega)]; exact e747
  have e760 : k11_11 = fZ H754 11 11 := by rw [eH754, fZ_sF_nc (by omega)]; exact e748
  have e761 : k11_12 = fZ H754 11 12 := by rw [eH754, fZ_sF_nc (by omega)]; exact e749
  have e762 : k11_7 = fZ H754 3 7 := by rw [eH754, fZ_sF_ne (by decide)]; exact e750
  have e763 : k11_8 = fZ H754 3 8 := by rw [eH754, fZ_sF_ne (by decide)]; exact e751
  have e764 : k11_9 = fZ H754 3 9 := by rw [eH754, fZ_sF_ne (by decide)]; exact e752
  have e765 : k11_10 = fZ H754 3 10 := by rw [eH754, fZ_sF_eq hIH742 sx_3 rfl]
  have m766 : kpN 3 10 H H754 := kpN_F m753 eH754 (by omega)
  refine g_aload_n rfl ?_
  refine g_aload_n rfl ?_
  refine g_gfk hIH754 sx_11 rfl e760 ?_
  refine g_pfi hIH754 sx_3 rfl (gz_any _) (fun H767 eH767 hIH767 => ?_)
  have e768 : k1_1 = fZ H767 1 1 := by rw [eH767, fZ_sF_nc (by omega)]; exact e755
  have e769 : k11_7 = fZ H767 11 7 := by rw [eH767, fZ_sF_nc (by omega)]; exact e756
  have e770 : k11_8 = fZ H767 11 8 := by rw [eH767, fZ_sF_nc (by omega)]; exact e757
  have e771 : k11_9 = fZ H767 11 9 := by rw [eH767, fZ_sF_nc (by omega)]; exact e758
  have e772 : k11_10 = fZ H767 11 10 := by rw [eH767, fZ_sF_nc (by omega)]; exact e759
  have e773 : k11_11 = fZ H767 11 11 := by rw [eH767, fZ_sF_nc (by omega)]; exact e760
  have e774 : k11_12 = fZ H767 11 12 := by rw [eH767, fZ_sF_nc (by omega)]; exact e761
  have e775 : k11_7 = fZ H767 3 7 := by rw [eH767, fZ_sF_ne (by decide)]; exact e762
  have e776 : k11_8 = fZ H767 3 8 := by rw [eH767, fZ_sF_ne (by decide)]; exact e763
  have e777 : k11_9 = fZ H767 3 9 := by rw [eH767, fZ_sF_ne (by decide)]; exact e764
  have e778 : k11_10 = fZ H767 3 10 := by rw [eH767, fZ_sF_ne (by decide)]; exact e765
  have e779 : k11_11 = fZ H767 3 11 := by rw [eH767, fZ_sF_eq hIH754 sx_3 rfl]
  have m780 : kpN 3 10 H H767 := kpN_F m766 eH767 (by omega)
  refine g_aload_n rfl ?_
  refine g_aload_n rfl ?_
  refine g_gfk hIH767 sx_11 rfl e774 ?_
  refine g_pfz hIH767 sx_3 rfl (by omega) (fun H781 eH781 hIH781 => ?_)
  have e782 : k1_1 = fZ H781 1 1 := by rw [eH781, fZ_sF_nc (by omega)]; exact e768
  have e783 : k11_7 = fZ H781 11 7 := by rw [eH781, fZ_sF_nc (by omega)]; exact e769
  have e784 : k11_8 = fZ H781 11 8 := by rw [eH781, fZ_sF_nc (by omega)]; exact e770
  have e785 : k11_9 = fZ H781 11 9 := by rw [eH781, fZ_sF_nc (by omega)]; exact e771
  have e786 : k11_10 = fZ H781 11 10 := by rw [eH781, fZ_sF_nc (by omega)]; exact e772
  have e787 : k11_11 = fZ H781 11 11 := by rw [eH781, fZ_sF_nc (by omega)]; exact e773
  have e788 : k11_12 = fZ H781 11 12 := by rw [eH781, fZ_sF_nc (by omega)]; exact e774
  have e789 : k11_7 = fZ H781 3 7 := by rw [eH781, fZ_sF_ne (by decide)]; exact e775
  have e790 : k11_8 = fZ H781 3 8 := by rw [eH781, fZ_sF_ne (by decide)]; exact e776
  have e791 : k11_9 = fZ H781 3 9 := by rw [eH781, fZ_sF_ne (by decide)]; exact e777
  have e792 : k11_10 = fZ H781 3 10 := by rw [eH781, fZ_sF_ne (by decide)]; exact e778
  have e793 : k11_11 = fZ H781 3 11 := by rw [eH781, fZ_sF_ne (by decide)]; exact e779
  have e794 : k11_12 = fZ H781 3 12 := by rw [eH781, fZ_sF_eq hIH767 sx_3 rfl]
  have m795 : kpN 3 10 H H781 := kpN_F m780 eH781 (by omega)
  exact g_ret ⟨rfl, hIH781, (JX_bec (b := 3) (d := 11) (Or.inl rfl) (Or.inr rfl) hIH664 hIH688 hJ eH640 eH652 eH664 eH676 eH688 eH700 eH712 (fun x k => by rw [eH781, aZ_sF, eH767, aZ_sF, eH754, aZ_sF, eH742, aZ_sF, eH731, aZ_sF, eH721, aZ_sF])), (e782.symm.trans ek1_1), m795, (fun f hf => by rcases hf with rfl | rfl | rfl | rfl | rfl | rfl <;> first | exact e789.symm.trans ek11_7 | exact e790.symm.trans ek11_8 | exact e791.symm.trans ek11_9 | exact e792.symm.trans ek11_10 | exact e793.symm.trans ek11_11 | exact e794.symm.trans ek11_12), (fun k i h1 h2 => match k, h1, h2 with | 1, _, _ => (by show aZ H781 4 i = aZ H 12 i; rw [eH781, aZ_sF, eH767, aZ_sF, eH754, aZ_sF, eH742, aZ_sF, eH731, aZ_sF, eH721, aZ_sF, eH712, aZ_sC_nc (by decide), eH700, aZ_sC_nc (by decide), eH688, aZ_sC_nc (by decide), eH676, aZ_sC_nc (by decide), eH664, aZ_sC_nc (by decide), eH652, aZ_sC_nc (by decide), eH640, aZ_sC_eq hI sx_4 sx_12]) | 2, _, _ => (by show aZ H781 5 i = aZ H 13 i; rw [eH781, aZ_sF, eH767, aZ_sF, eH754, aZ_sF, eH742, aZ_sF, eH731, aZ_sF, eH721, aZ_sF, eH712, aZ_sC_nc (by decide), eH700, aZ_sC_nc (by decide), eH688, aZ_sC_nc (by decide), eH676, aZ_sC_nc (by decide), eH664, aZ_sC_nc (by decide), eH652, aZ_sC_eq hIH640 sx_5 sx_13, eH640, aZ_sC_nc (by decide)]) | 3, _, _ => (by show aZ H781 6 i = aZ H 14 i; rw [eH781, aZ_sF, eH767, aZ_sF, eH754, aZ_sF, eH742, aZ_sF, eH731, aZ_sF, eH721, aZ_sF, eH712, aZ_sC_nc (by decide), eH700, aZ_sC_nc (by decide), eH688, aZ_sC_nc (by decide), eH676, aZ_sC_nc (by decide), eH664, aZ_sC_eq hIH652 sx_6 sx_14, eH652, aZ_sC_nc (by decide), eH640, aZ_sC_nc (by decide)]) | 4, _, _ => (by show aZ H781 7 i = aZ H 15 i; rw [eH781, aZ_sF, eH767, aZ_sF, eH754, aZ_sF, eH742, aZ_sF, eH731, aZ_sF, eH721, aZ_sF, eH712, aZ_sC_nc (by decide), eH700, aZ_sC_nc (by decide), eH688, aZ_sC_nc (by decide), eH676, aZ_sC_eq hIH664 sx_7 sx_15, eH664, aZ_sC_nc (by decide), eH652, aZ_sC_nc (by decide), eH640, aZ_sC_nc (by decide)]) | 5, _, _ => (by show aZ H781 8 i = aZ H 16 i; rw [eH781, aZ_sF, eH767, aZ_sF, eH754, aZ_sF, eH742, aZ_sF, eH731, aZ_sF, eH721, aZ_sF, eH712, aZ_sC_nc (by decide), eH700, aZ_sC_nc (by decide), eH688, aZ_sC_eq hIH676 sx_8 sx_16, eH676, aZ_sC_nc (by decide), eH664, aZ_sC_nc (by decide), eH652, aZ_sC_nc (by decide), eH640, aZ_sC_nc (by decide)]) | 6, _, _ => (by show aZ H781 9 i = aZ H 17 i; rw [eH781, aZ_sF, eH767, aZ_sF, eH754, aZ_sF, eH742, aZ_sF, eH731, aZ_sF, eH721, aZ_sF, eH712, aZ_sC_nc (by decide), eH700, aZ_sC_eq hIH688 sx_9 sx_17, eH688, aZ_sC_nc (by decide), eH676, aZ_sC_nc (by decide), eH664, aZ_sC_nc (by decide), eH652, aZ_sC_nc (by decide), eH640, aZ_sC_nc (by decide)]) | 7, _, _ => (by show aZ H781 10 i = aZ H 18 i; rw [eH781, aZ_sF, eH767, aZ_sF, eH754, aZ_sF, eH742, aZ_sF, eH731, aZ_sF, eH721, aZ_sF, eH712, aZ_sC_eq hIH700 sx_10 sx_18, eH700, aZ_sC_nc (by decide), eH688, aZ_sC_nc (by decide), eH676, aZ_sC_nc (by decide), eH664, aZ_sC_nc (by decide), eH652, aZ_sC_nc (by decide), eH640, aZ_sC_nc (by decide)]) | 0, h1, _ => absurd h1 (by decide) | k + 8, _, h2 => absurd h2 (by omega))⟩
set_option maxRecDepth 4000 in
set_option maxHeartbeats 4000000 in
/-- X1.shorten -/
theorem e_18 (a1 : Int32) (a2 : Int32) (a3 : Int32) (H : mzH) (hI : gI SX H) (hJ : JX H) : gCall 18 [.ref 11, .int a1, .int a2, .int a3] H (gRv (fun H' => gI SX H' ∧ JX H' ∧ fZ H' 1 1 = fZ H 1 1 ∧ fZ H' 19 7 = fZ H 19 7 ∧ kpN 13 13 H H')) := by
  obtain ⟨k1_1, ek1_1⟩ : ∃ z, z = fZ H 1 1 := ⟨_, rfl⟩
  have ik1_1 : k1_1.toInt = (fZ H 1 1).toInt := by rw [← ek1_1]
  have bk1_1 : 0 ≤ k1_1.toInt ∧ k1_1.toInt ≤ 900 := by rw [ek1_1]; exact fZ_of hI sx_1 rfl
  obtain ⟨k19_7, ek19_7⟩ : ∃ z, z = fZ H 19 7 := ⟨_, rfl⟩
  have ik19_7 : k19_7.toInt = (fZ H 19 7).toInt := by rw [← ek19_7]
  have mkfr : kpN 13 13 H H := kpN_r
  refine gG_call [(0, .ref 11), (1, .int a1), (2, .int a2), (3, .int a3)] ⟨rfl, rfl, rfl, rfl, trivial⟩ ?_
  show gG 5 zB_18 (mzBlk zB_18 0) [(0, .ref 11), (1, .int a1), (2, .int a2), (3, .int a3)] [] H 0 0 _
  refine g_aload_n rfl ?_
  refine g_iload_n rfl ?_
  refine g_iload_n rfl ?_
  refine g_invvi hI sx_11 rfl rfl rfl rfl (s_17 11 zBo_11 a1 a2 H hI hJ) (fun v123 H121 r122 => ?_)
  obtain rfl := r122
  refine g_istore (l' := [(0, .ref 11), (1, .int a1), (2, .int a2), (3, .int a3), (4, .int v123)]) rfl rfl ?_
  refine g_aload_n rfl ?_
  refine g_iload_n rfl ?_
  refine g_invvi hI sx_11 rfl rfl rfl rfl (s_11 11 zBo_11 a1 H hI hJ) (fun v126 H124 r125 => ?_)
  obtain ⟨rfl, bv126, p127⟩ := r125
  refine g_if_eq (fun c128 => ?_) (fun c128 => ?_)
  · exact g_ret ⟨rfl, hI, hJ, (ek1_1.symm.trans ek1_1), (ek19_7.symm.trans ek19_7), mkfr⟩
  · refine g_aload_n rfl ?_
    refine g_iload_n rfl ?_
    refine g_invvi hI sx_11 rfl rfl rfl rfl (s_11 11 zBo_11 a2 H hI hJ) (fun v131 H129 r130 => ?_)
    obtain ⟨rfl, bv131, p132⟩ := r130
    refine g_if_eq (fun c133 => ?_) (fun c133 => ?_)
    · exact g_ret ⟨rfl, hI, hJ, (ek1_1.symm.trans ek1_1), (ek19_7.symm.trans ek19_7), mkfr⟩
    · refine g_iload rfl ?_
      refine g_bipush (by decide) (fun v134 kv134 => ?_)
      refine g_if2_eq (fun c135 => ?_) (fun c135 => ?_)
      · refine g_aload_n rfl ?_
        refine g_gfr hI sx_11 rfl ?_
        refine g_iload_n rfl ?_
        refine g_bipush (by decide) (fun v136 kv136 => ?_)
        refine g_imulk (n := 8) kv136 (by omega) (fun v137 ev137 => ?_)
        refine g_iload_n rfl ?_
        refine g_iadd (by omega) (fun v138 ev138 => ?_)
        refine g_iload_n rfl ?_
        refine g_iastore hI sx_13 (by omega) (gz_any _) (fun H139 eH139 hIH139 => ?_)
        have hJH139 : JX H139 := JX_sA (by omega) eH139 hJ
        have e140 : k1_1 = fZ H139 1 1 := by rw [eH139, fZ_sA]; exact ek1_1
        have e141 : k19_7 = fZ H139 19 7 := by rw [eH139, fZ_sA]; exact ek19_7
        have m142 : kpN 13 13 H H139 := kpN_A mkfr eH139 (by omega)
        refine g_nop ?_
        exact g_ret ⟨rfl, hIH139, hJH139, (e140.symm.trans ek1_1), (e141.symm.trans ek19_7), m142⟩
      · refine g_iload_n rfl ?_
        refine g_iload rfl ?_
        refine g_if2_ge (fun c143 => ?_) (fun c143 => ?_)
        · exact g_ret ⟨rfl, hI, hJ, (ek1_1.symm.trans ek1_1), (ek19_7.symm.trans ek19_7), mkfr⟩
        · refine g_nop ?_
          refine g_aload_n rfl ?_
          refine g_gfr hI sx_11 rfl ?_
          refine g_iload_n rfl ?_
          refine g_bipush (by decide) (fun v144 kv144 => ?_)
          refine g_imulk (n := 8) kv144 (by omega) (fun v145 ev145 => ?_)
          refine g_iload_n rfl ?_
          refine g_iadd (by omega) (fun v146 ev146 => ?_)
          refine g_iload_n rfl ?_
          refine g_iastore hI sx_13 (by omega) (gz_any _) (fun H147 eH147 hIH147 => ?_)
          have hJH147 : JX H147 := JX_sA (by omega) eH147 hJ
          have e148 : k1_1 = fZ H147 1 1 := by rw [eH147, fZ_sA]; exact ek1_1
          have e149 : k19_7 = fZ H147 19 7 := by rw [eH147, fZ_sA]; exact ek19_7
          have m150 : kpN 13 13 H H147 := kpN_A mkfr eH147 (by omega)
          refine g_nop ?_
          exact g_ret ⟨rfl, hIH147, hJH147, (e148.symm.trans ek1_1), (e149.symm.trans ek19_7), m150⟩
set_option maxRecDepth 4000 in
set_option maxHeartbeats 4000000 in
/-- X1.joinRoads -/
theorem e_19 (H : mzH) (hI : gI SX H) (hJ : JX H) : gCall 19 [.ref 11] H (gRv (fun H' => gI SX H' ∧ JX H' ∧ fZ H' 1 1 = fZ H 1 1 ∧ kpN 13 13 H H')) := by
  obtain ⟨k1_1, ek1_1⟩ : ∃ z, z = fZ H 1 1 := ⟨_, rfl⟩
  have ik1_1 : k1_1.toInt = (fZ H 1 1).toInt := by rw [← ek1_1]
  have bk1_1 : 0 ≤ k1_1.toInt ∧ k1_1.toInt ≤ 900 := by rw [ek1_1]; exact fZ_of hI sx_1 rfl
  have mkfr : kpN 13 13 H H := kpN_r
  refine gG_call [(0, .ref 11)] ⟨rfl, trivial⟩ ?_
  show gG 4 zB_19 (mzBlk zB_19 0) [(0, .ref 11)] [] H 0 0 _
  refine g_iconst (by decide) (fun v341 kv341 => ?_)
  refine g_istore_n (l' := [(0, .ref 11), (1, .int v341)]) rfl rfl ?_
  refine g_nop ?_
  have L346 : ∀ (N : Nat) (v342 : Int32) (H343 : mzH), gI SX H343 → JX H343 → k1_1 = fZ H343 1 1 → kpN 13 13 H H343 → (0 ≤ v342.toInt ∧ v342.toInt ≤ 8) → (8 - v342.toInt).toNat < N → gG 4 zB_19 (mzBlk zB_19 1) [(0, .ref 11), (1, .int v342)] [] H343 0 0 (gRv (fun H' => gI SX H' ∧ JX H' ∧ fZ H' 1 1 = fZ H 1 1 ∧ kpN 13 13 H H')) := by
    intro N
    induction N with
    | zero => intro v342 H343 hIH343 hJH343 e344 m345 bv342 hmL346; exact absurd hmL346 (Nat.not_lt_zero _)
    | succ N ihL346 =>
      intro v342 H343 hIH343 hJH343 e344 m345 bv342 hmL346
      refine g_iload_n rfl ?_
      refine g_aload_n rfl ?_
      refine g_gfi hIH343 sx_11 rfl (fun v347 ev347 lv347 uv347 => ?_)
      refine g_if2_ge (fun c348 => ?_) (fun c348 => ?_)
      · exact g_ret ⟨rfl, hIH343, hJH343, (e344.symm.trans ek1_1), m345⟩
      · refine g_iconst (by decide) (fun v349 kv349 => ?_)
        refine g_istore_n (l' := [(0, .ref 11), (1, .int v342), (2, .int v349)]) rfl rfl ?_
        refine g_nop ?_
        have L354 : ∀ (N : Nat) (v350 : Int32) (H351 : mzH), gI SX H351 → JX H351 → k1_1 = fZ H351 1 1 → kpN 13 13 H H351 → (0 ≤ v350.toInt ∧ v350.toInt ≤ 8) → (8 - v350.toInt).toNat < N → gG 4 zB_19 (mzBlk zB_19 2) [(0, .ref 11), (1, .int v342), (2, .int v350)] [] H351 0 0 (gRv (fun H' => gI SX H' ∧ JX H' ∧ fZ H' 1 1 = fZ H 1 1 ∧ kpN 13 13 H H')) := by
          intro N
          induction N with
          | zero => intro v350 H351 hIH351 hJH351 e352 m353 bv350 hmL354; exact absurd hmL354 (Nat.not_lt_zero _)
          | succ N ihL354 =>
            intro v350 H351 hIH351 hJH351 e352 m353 bv350 hmL354
            refine g_iload_n rfl ?_
            refine g_aload_n rfl ?_
            refine g_gfi hIH351 sx_11 rfl (fun v355 ev355 lv355 uv355 => ?_)
            refine g_if2_ge (fun c356 => ?_) (fun c356 => ?_)
            · refine g_iinc (l' := (fun v357 => [(0, .ref 11), (1, .int v357), (2, .int v350)])) rfl rfl (by decide) (by omega) (fun _ => rfl) (fun v357 ev357 => ?_)
              refine g_goto ?_
              refine gG_pick [0, 1] (l' := [(0, .ref 11), (1, .int v357)]) rfl ?_
              exact ihL346 v357 H351 hIH351 hJH351 e352 m353 (by omega) (by omega)
            · refine g_iconst (by decide) (fun v358 kv358 => ?_)
              refine g_istore_n (l' := [(0, .ref 11), (1, .int v342), (2, .int v350), (3, .int v358)]) rfl rfl ?_
              refine g_nop ?_
              have L363 : ∀ (N : Nat) (v359 : Int32) (H360 : mzH), gI SX H360 → JX H360 → k1_1 = fZ H360 1 1 → kpN 13 13 H H360 → (0 ≤ v359.toInt ∧ v359.toInt ≤ 8) → (8 - v359.toInt).toNat < N → gG 4 zB_19 (mzBlk zB_19 3) [(0, .ref 11), (1, .int v342), (2, .int v350), (3, .int v359)] [] H360 0 0 (gRv (fun H' => gI SX H' ∧ JX H' ∧ fZ H' 1 1 = fZ H 1 1 ∧ kpN 13 13 H H')) := by
                intro N
                induction N with
                | zero => intro v359 H360 hIH360 hJH360 e361 m362 bv359 hmL363; exact absurd hmL363 (Nat.not_lt_zero _)
                | succ N ihL363 =>
                  intro v359 H360 hIH360 hJH360 e361 m362 bv359 hmL363
                  refine g_iload_n rfl ?_
                  refine g_aload_n rfl ?_
                  refine g_gfi hIH360 sx_11 rfl (fun v364 ev364 lv364 uv364 => ?_)
                  refine g_if2_ge (fun c365 => ?_) (fun c365 => ?_)
                  · refine g_iinc (l' := (fun v366 => [(0, .ref 11), (1, .int v342), (2, .int v366), (3, .int v359)])) rfl rfl (by decide) (by omega) (fun _ => rfl) (fun v366 ev366 => ?_)
                    refine g_goto ?_
                    refine gG_pick [0, 1, 2] (l' := [(0, .ref 11), (1, .int v342), (2, .int v366)]) rfl ?_
                    exact ihL354 v366 H360 hIH360 hJH360 e361 m362 (by omega) (by omega)
                  · refine g_aload_n rfl ?_
                    refine g_iload_n rfl ?_
                    refine g_iload_n rfl ?_
                    refine g_invvi hIH360 sx_11 rfl rfl rfl rfl (s_17 11 zBo_11 v350 v342 H360 hIH360 hJH360) (fun v369 H367 r368 => ?_)
                    obtain rfl := r368
                    refine g_bipush (by decide) (fun v370 kv370 => ?_)
                    refine g_if2_eq (fun c371 => ?_) (fun c371 => ?_)
                    · refine g_iinc (l' := (fun v372 => [(0, .ref 11), (1, .int v342), (2, .int v350), (3, .int v372)])) rfl rfl (by decide) (by omega) (fun _ => rfl) (fun v372 ev372 => ?_)
                      refine g_goto ?_
                      exact ihL363 v372 H360 hIH360 hJH360 e361 m362 (by omega) (by omega)
                    · refine g_aload_n rfl ?_
                      refine g_iload_n rfl ?_
                      refine g_iload_n rfl ?_
                      refine g_invvi hIH360 sx_11 rfl rfl rfl rfl (s_17 11 zBo_11 v342 v359 H360 hIH360 hJH360) (fun v375 H373 r374 => ?_)
                      obtain rfl := r374
                      refine g_bipush (by decide) (fun v376 kv376 => ?_)
                      refine g_if2_eq (fun c377 => ?_) (fun c377 => ?_)
                      · refine g_iinc (l' := (fun v378 => [(0, .ref 11), (1, .int v342), (2, .int v350), (3, .int v378)])) rfl rfl (by decide) (by omega) (fun _ => rfl) (fun v378 ev378 => ?_)
                        refine g_goto ?_
                        exact ihL363 v378 H360 hIH360 hJH360 e361 m362 (by omega) (by omega)
                      · refine g_aload_n rfl ?_
                        refine g_iload_n rfl ?_
                        refine g_iload_n rfl ?_
                        refine g_aload_n rfl ?_
                        refine g_iload_n rfl ?_
                        refine g_iload_n rfl ?_
                        refine g_invvi hIH360 sx_11 rfl rfl rfl rfl (s_17 11 zBo_11 v350 v342 H360 hIH360 hJH360) (fun v381 H379 r380 => ?_)
                        obtain rfl := r380
                        refine g_aload_n rfl ?_
                        refine g_iload_n rfl ?_
                        refine g_iload_n rfl ?_
                        refine g_invvi hIH360 sx_11 rfl rfl rfl rfl (s_17 11 zBo_11 v342 v359 H360 hIH360 hJH360) (fun v384 H382 r383 => ?_)
                        obtain rfl := r383
                        refine g_iadd' (fun v385 ov385 => ?_)
                        refine g_invvv hIH360 sx_11 rfl rfl rfl rfl (e_18 v350 v359 v385 H360 hIH360 hJH360) (fun H386 r387 => ?_)
                        obtain ⟨hIH386, hJH386, w388, w389, m390⟩ := r387
                        have e391 : k1_1 = fZ H386 1 1 := e361.trans w388.symm
                        have m392 : kpN 13 13 H H386 := kpN_t m362 m390
                        refine g_nop ?_
                        refine g_iinc (l' := (fun v393 => [(0, .ref 11), (1, .int v342), (2, .int v350), (3, .int v393)])) rfl rfl (by decide) (by omega) (fun _ => rfl) (fun v393 ev393 => ?_)
                        refine g_goto ?_
                        exact ihL363 v393 H386 hIH386 hJH386 e391 m392 (by omega) (by omega)
              exact L363 _ v358 H351 hIH351 hJH351 e352 m353 (by omega) (Nat.lt_succ_self _)
        exact L354 _ v349 H343 hIH343 hJH343 e344 m345 (by omega) (Nat.lt_succ_self _)
  exact L346 _ v341 H hI hJ ek1_1 mkfr (by omega) (Nat.lt_succ_self _)
def kpC (H B : mzH) : Prop := ∀ c, ((3 ≤ c ∧ c ≤ 10) ∨ (25 ≤ c ∧ c ≤ 27) ∨ c = 42) → (∀ f, fZ B c f = fZ H c f) ∧ (∀ i, aZ B c i = aZ H c i)
theorem bkX_cp {a b : Nat} {H B : mzH} {c : pB} (hf : ∀ f, (f = 7 ∨ f = 8 ∨ f = 9 ∨ f = 10 ∨ f = 11 ∨ f = 12) → fZ B b f = fZ H a f) (ha : ∀ k i, 1 ≤ k → k ≤ 7 → aZ B (b + k) i = aZ H (a + k) i) (h : bkX H a c) : bkX B b c := by
  obtain ⟨g1, g2, g3, g4, g5, g6, g7, g9, g10⟩ := h
  refine ⟨?_, ?_, ?_, ?_, ?_, ?_, fun p hp => ?_, fun k hk => ?_, g10⟩
  · rw [hf 7 (by decide)]; exact g1
  · rw [hf 8 (by decide)]; exact g2
  · rw [hf 9 (by decide)]; exact g3
  · rw [hf 10 (by decide)]; exact g4
  · rw [hf 11 (by decide)]; exact g5
  · rw [hf 12 (by decide)]; exact g6
  · rw [ha 1 p (by decide) (by decide)]; exact g7 p hp
  · rw [ha 3 k (by decide) (by decide), ha 4 k (by decide) (by decide), ha 5 k (by decide) (by decide), ha 6 k (by decide) (by decide), ha 7 k (by decide) (by decide)]; exact g9 k hk
/-- without the ways -/
theorem bkX_nw {b : Nat} {H B : mzH} {c : pB} (hf : ∀ f, fZ B b f = fZ H b f) (ha : ∀ k i, 1 ≤ k → k ≤ 7 → k ≠ 2 → aZ B (b + k) i = aZ H (b + k) i) (h : bkX H b c) : bkX B b c := by
  obtain ⟨g1, g2, g3, g4, g5, g6, g7, g9, g10⟩ := h
  refine ⟨?_, ?_, ?_, ?_, ?_, ?_, fun p hp => ?_, fun k hk => ?_, g10⟩
  · rw [hf]; exact g1
  · rw [hf]; exact g2
  · rw [hf]; exact g3
  · rw [hf]; exact g4
  · rw [hf]; exact g5
  · rw [hf]; exact g6
  · rw [ha 1 p (by decide) (by decide) (by decide)]; exact g7 p hp
  · rw [ha 3 k (by decide) (by decide) (by decide), ha 4 k (by decide) (by decide) (by decide), ha 5 k (by decide) (by decide) (by decide), ha 6 k (by decide) (by decide) (by decide), ha 7 k (by decide) (by decide) (by decide)]; exact g9 k hk
/-- what closing comes to -/
def clE (H B : mzH) (s : Int) (b : pB) (v : Int32) : Prop := fZ B 19 5 = fZ H 19 5 ∧ fZ B 19 6 = fZ H 19 6 ∧ ((s = 0 ∧ v.toInt = -1 ∧ kpC H B) ∨ (s ≠ 0 ∧ v = fZ H 19 7 ∧ bkX B 3 b))
theorem cl_mk {H H1 H2 H3 H4 H5 : mzH} {b : pB} {s : Int} {u v : Int32} (hs : s ≠ 0) (hb : bkX H 11 b) (e1 : H1 = sF H 1 1 u) (k2 : kpN 13 13 H1 H2) (c1 : ∀ f, (f = 7 ∨ f = 8 ∨ f = 9 ∨ f = 10 ∨ f = 11 ∨ f = 12) → fZ H3 3 f = fZ H2 11 f) (c2 : ∀ k i, 1 ≤ k → k ≤ 7 → aZ H3 (3 + k) i = aZ H2 (11 + k) i) (k3 : kpN 3 10 H2 H3) (k4 : kpB H3 H4) (k5 : kpB H4 H5) (hv : v = fZ H5 19 7) : clE H H5 s b v := by
  have x19 : ∀ f, fZ H5 19 f = fZ H 19 f := fun f => by
    rw [(k5 19 (by decide)).1, (k4 19 (by decide)).1, (k3 19 (by decide)).1, (k2 19 (by decide)).1, e1, fZ_sF_nc (by decide)]
  have b1 : bkX H1 11 b := bkX_nw (fun f => by rw [e1, fZ_sF_nc (by decide)]) (fun k i _ _ _ => by rw [e1, aZ_sF]) hb
  have b2 : bkX H2 11 b := bkX_nw (fun f => (k2 11 (by decide)).1 f) (fun k i _ _ h => (k2 (11 + k) (by omega)).2 i) b1
  have b3 : bkX H3 3 b := bkX_cp c1 c2 b2
  have k := kpB_t k4 k5
  have b5 : bkX H5 3 b := bkX_nw (fun f => (k 3 (by decide)).1 f) (fun q i _ _ _ => (k (3 + q) (by omega)).2 i) b3
  exact ⟨x19 5, x19 6, Or.inr ⟨hs, by rw [hv, x19], b5⟩⟩
/-- nothing told -/
theorem bk_0x {H : mzH} {c : pB} (e : c = pB0) (h0 : (fZ H 11 7).toInt = 0) (h1 : (fZ H 11 8).toInt = 0) (h2 : (fZ H 11 9).toInt = 0) (h3 : (fZ H 11 10).toInt = 10) (h4 : (fZ H 11 11).toInt = 10) (h5 : (fZ H 11 12).toInt = 0) : bkX H 11 c := by
  subst e
  refine ⟨h0, h1, h2, h3, h4, h5, fun p hp => ?_, fun k hk => ?_, ?_⟩
  · have hp : (p : Int) < 0 := hp
    omega
  · have hk : (k : Int) < 0 := hk
    omega
  · show (0 : Int) ≤ 0 ∧ (0 : Int) ≤ 12
    decide
/-- what reading comes to -/
def rdY (H B : mzH) (a1 a2 : Int32) (b : pB) (v : Int32) : Prop := ∃ (T : pT) (k : Nat), tkA (bX H) a1.toInt.toNat T.K T.S T.V T.M ∧ pGoes a2.toInt T b k ∧ pStop T (pIt a2.toInt T k b).2 ∧ (fZ B 19 5).toInt = (pIt a2.toInt T k b).2.f ∧ (fZ B 19 6).toInt = (pIt a2.toInt T k b).2.p ∧ bkX B 11 (pIt a2.toInt T k b).1 ∧ (fZ B 19 7).toInt = (k : Int) ∧ frE H B ∧ ((v.toInt = 1 ∧ (pIt a2.toInt T k b).2.f = 0) ∨ (v.toInt = 0 ∧ (pIt a2.toInt T k b).2.f ≠ 0))
theorem e_38 {b : pB} (a1 : Int32) (ha1 : 0 ≤ a1.toInt ∧ a1.toInt ≤ 900) (a2 : Int32) (ha2 : 0 ≤ a2.toInt ∧ a2.toInt ≤ 1) (H : mzH) (hI : gI SX H) (hJ : JX H) (hp0 : a1.toInt ≤ (fZ H 1 1).toInt) (hp1 : bkX H 11 b) : gCall 38 [.ref 19, .int a1, .int a2] H (gRi (fun v H' => gI SX H' ∧ JX H' ∧ (0 ≤ v.toInt ∧ v.toInt ≤ 1) ∧ rdY H H' a1 a2 b v)) := by
  have key := f_38 a1 ha1 a2 ha2 H hI hJ (fZ H 19 2) (fZ H 19 3) (fZ H 19 4) (fZ H 19 5) (fZ H 19 6) (fZ_of hI sx_19 rfl) hp0 hp1
  rw [rS_self hI rfl rfl rfl rfl rfl] at key
  refine gGo_mono key ?_
  rintro o H' ⟨v, rfl, B, y0, y1, y2, y3, y4, rfl, hB, hJB, bv, b0, ⟨T, k, h1, h2, h3, h4, h5, h6⟩, h7⟩
  have fc : ∀ c, c ≠ 19 → (rS B y0 y1 y2 y3 y4)[c]? = B[c]? := fun c hc => by
    unfold rS
    rw [c_sF hc, c_sF hc, c_sF hc, c_sF hc, c_sF hc]
  refine ⟨v, rfl, rS_I hB b0, rS_J hJB, bv, T, k, h1, h2.1, h2.2, ?_, ?_, bk_fr (fun c _ _ => fc c (by omega)) h4, ?_, fun c hc => ?_, ?_⟩
  · rw [← rS_g5 hB]; exact h3.2.2.2.1
  · rw [← rS_g6 hB]; exact h3.2.2.2.2.1
  · rw [← rS_o (by decide)]; exact h5
  · rw [fc c (by omega)]; exact h6 c hc
  · have := h3.2.2.2.1
    omega
/-- what a text comes to -/
def txX (H B : mzH) (n : Nat) (told : Int) (c : pB) (v : Int32) : Prop := ∃ (T : pT) (k : Nat), tkA (bX H) n T.K T.S T.V T.M ∧ pGoes told T c k ∧ pStop T (pIt told T k c).2 ∧ (fZ B 1 1).toInt = 0 ∧ (fZ B 19 5).toInt = (pIt told T k c).2.f ∧ (fZ B 19 6).toInt = (pIt told T k c).2.p ∧ (((pIt told T k c).2.f ≠ 0 ∧ v.toInt = -1 ∧ kpC H B) ∨ ((pIt told T k c).2.f = 0 ∧ v.toInt = (k : Int) ∧ bkX B 3 (pIt told T k c).1))
theorem tx_mk {H H1 H2 H3 : mzH} {n : Nat} {a2 told : Int} {c : pB} {T : pT} {k : Nat} {w v : Int32} (ht : a2 = told) (k1 : kpN 11 18 H H1) (t1 : tkA (bX H1) n T.K T.S T.V T.M) (t2 : pGoes a2 T c k) (t3 : pStop T (pIt a2 T k c).2) (t4 : (fZ H2 19 5).toInt = (pIt a2 T k c).2.f) (t5 : (fZ H2 19 6).toInt = (pIt a2 T k c).2.p) (t7 : (fZ H2 19 7).toInt = (k : Int)) (t8 : frE H1 H2) (t9 : (w.toInt = 1 ∧ (pIt a2 T k c).2.f = 0) ∨ (w.toInt = 0 ∧ (pIt a2 T k c).2.f ≠ 0)) (c0 : (fZ H3 1 1).toInt = 0) (cl : clE H2 H3 w.toInt (pIt a2 T k c).1 v) : txX H H3 n told c v := by
  subst ht
  have eb : bX H1 = bX H := by
    funext q
    unfold bX
    rw [(k1 2 (by decide)).2]
  obtain ⟨c1, c2, c3⟩ := cl
  refine ⟨T, k, by rw [← eb]; exact t1, t2, t3, c0, by rw [c1]; exact t4, by rw [c2]; exact t5, ?_⟩
  rcases c3 with ⟨d1, d2, d3⟩ | ⟨d1, d2, d3⟩
  · exact Or.inl ⟨by omega, d2, fun q hq => ⟨fun f => by rw [(d3 q hq).1, fZ_cg (t8 q (by omega)), (k1 q (by omega)).1], fun i => by rw [(d3 q hq).2, aZ_cg (t8 q (by omega)), (k1 q (by omega)).2]⟩⟩
  · exact Or.inr ⟨by omega, by rw [d2]; exact t7, d3⟩

set_option maxRecDepth 4000 in
set_option maxHeartbeats 4000000 in
/-- X9.close -/
theorem e_116 {b : pB} (a1 : Int32) (ha1 : 0 ≤ a1.toInt ∧ a1.toInt ≤ 1) (H : mzH) (hI : gI SX H) (hJ : JX H) (hp0 : bkX H 11 b) : gCall 116 [.ref 0, .int a1] H (gRi (fun v H' => gI SX H' ∧ JX H' ∧ (fZ H' 1 1).toInt = 0 ∧ clE H H' a1.toInt b v)) := by
  refine gG_call [(0, .ref 0), (1, .int a1)] ⟨rfl, rfl, trivial⟩ ?_
  show gG 2 zB_116 (mzBlk zB_116 0) [(0, .ref 0), (1, .int a1)] [] H 0 0 _
  refine g_aload_n rfl ?_
  refine g_gfr hI sx_0 rfl ?_
  refine g_iconst (by decide) (fun v113 kv113 => ?_)
  refine g_pfi hI sx_1 rfl (by omega) (fun H114 eH114 hIH114 => ?_)
  have hJH114 : JX H114 := JX_sF eH114 hJ
  have e115 : v113 = fZ H114 1 1 := by rw [eH114, fZ_sF_eq hI sx_1 rfl]
  have ie115 : v113.toInt = (fZ H114 1 1).toInt := by rw [← e115]
  refine g_iload_n rfl ?_
  refine g_if_ne (fun c116 => ?_) (fun c116 => ?_)
  · refine g_aload_n rfl ?_
    refine g_gfr hIH114 sx_0 rfl ?_
    refine g_invvv hIH114 sx_11 rfl rfl rfl rfl (e_19 H114 hIH114 hJH114) (fun H117 r118 => ?_)
    obtain ⟨hIH117, hJH117, w119, m120⟩ := r118
    have e121 : v113 = fZ H117 1 1 := e115.trans w119.symm
    have ie121 : v113.toInt = (fZ H117 1 1).toInt := by rw [← e121]
    refine g_aload_n rfl ?_
    refine g_gfr hIH117 sx_0 rfl ?_
    refine g_aload_n rfl ?_
    refine g_gfr hIH117 sx_0 rfl ?_
    refine g_invvv hIH117 sx_3 rfl rfl rfl rfl (e_10b H117 hIH117 hJH117) (fun H122 r123 => ?_)
    obtain ⟨hIH122, hJH122, w124, m125, p126, p127⟩ := r123
    have e128 : v113 = fZ H122 1 1 := e121.trans w124.symm
    have ie128 : v113.toInt = (fZ H122 1 1).toInt := by rw [← e128]
    refine g_aload_n rfl ?_
    refine g_gfr hIH122 sx_0 rfl ?_
    refine g_invvv hIH122 sx_24 rfl rfl rfl rfl (s_52 H122 hIH122 hJH122) (fun H129 r130 => ?_)
    obtain ⟨hIH129, hJH129, w131, m132⟩ := r130
    have e133 : v113 = fZ H129 1 1 := e128.trans w131.symm
    have ie133 : v113.toInt = (fZ H129 1 1).toInt := by rw [← e133]
    refine g_aload_n rfl ?_
    refine g_gfr hIH129 sx_0 rfl ?_
    refine g_invvv hIH129 sx_54 rfl rfl rfl rfl (s_1 H129 hIH129 hJH129) (fun H134 r135 => ?_)
    obtain ⟨hIH134, hJH134, w136, m137⟩ := r135
    have e138 : v113 = fZ H134 1 1 := e133.trans w136.symm
    have ie138 : v113.toInt = (fZ H134 1 1).toInt := by rw [← e138]
    refine g_aload_n rfl ?_
    refine g_gfr hIH134 sx_0 rfl ?_
    refine g_gfi hIH134 sx_19 rfl (fun v139 ev139 lv139 uv139 => ?_)
    exact g_iret ⟨_, rfl, hIH134, hJH134, (by omega), (cl_mk (by omega) hp0 eH114 m120 p126 p127 m125 m132 (kpB_X m137) ev139)⟩
  · refine g_iconst (by decide) (fun v140 kv140 => ?_)
    exact g_iret ⟨_, rfl, hIH114, hJH114, (by omega), ⟨by rw [eH114, fZ_sF_nc (by decide)], by rw [eH114, fZ_sF_nc (by decide)], Or.inl ⟨by omega, by omega, fun q h => ⟨fun f => by rw [eH114, fZ_sF_nc (by omega)], fun i => by rw [eH114, aZ_sF]⟩⟩⟩⟩
set_option maxRecDepth 4000 in
set_option maxHeartbeats 4000000 in
/-- X9.text -/
theorem e_114a (a1 : Int32) (H : mzH) (hI : gI SX H) (hJ : JX H) (hp0 : ¬ (0 ≤ a1.toInt ∧ a1.toInt ≤ (fZ H 1 1).toInt)) : gCall 114 [.ref 0, .int a1] H (gRi (fun v H' => gI SX H' ∧ JX H' ∧ H' = H ∧ v.toInt = -2)) := by
  obtain ⟨k1_1, ek1_1⟩ : ∃ z, z = fZ H 1 1 := ⟨_, rfl⟩
  have ik1_1 : k1_1.toInt = (fZ H 1 1).toInt := by rw [← ek1_1]
  have bk1_1 : 0 ≤ k1_1.toInt ∧ k1_1.toInt ≤ 900 := by rw [ek1_1]; exact fZ_of hI sx_1 rfl
  refine gG_call [(0, .ref 0), (1, .int a1)] ⟨rfl, rfl, trivial⟩ ?_
  show gG 3 zB_114 (mzBlk zB_114 0) [(0, .ref 0), (1, .int a1)] [] H 0 0 _
  refine g_iload_n rfl ?_
  refine g_if_lt (fun c17 => ?_) (fun c17 => ?_)
  · refine g_bipush (by decide) (fun v18 kv18 => ?_)
    exact g_iret ⟨_, rfl, hI, hJ, rfl, (by omega)⟩
  · refine g_iload_n rfl ?_
    refine g_aload_n rfl ?_
    refine g_gfr hI sx_0 rfl ?_
    refine g_gfk hI sx_1 rfl ek1_1 ?_
    refine g_if2_le (fun c19 => ?_) (fun c19 => ?_)
    · exfalso; omega
    · refine g_nop ?_
      refine g_bipush (by decide) (fun v20 kv20 => ?_)
      exact g_iret ⟨_, rfl, hI, hJ, rfl, (by omega)⟩
set_option maxRecDepth 4000 in
set_option maxHeartbeats 4000000 in
/-- X9.text -/
theorem e_114b {c : pB} (a1 : Int32) (H : mzH) (hI : gI SX H) (hJ : JX H) (hp0 : (0 ≤ a1.toInt ∧ a1.toInt ≤ (fZ H 1 1).toInt)) (hp1 : c = pB0) : gCall 114 [.ref 0, .int a1] H (gRi (fun v H' => gI SX H' ∧ JX H' ∧ txX H H' a1.toInt.toNat 0 c v)) := by
  obtain ⟨k1_1, ek1_1⟩ : ∃ z, z = fZ H 1 1 := ⟨_, rfl⟩
  have ik1_1 : k1_1.toInt = (fZ H 1 1).toInt := by rw [← ek1_1]
  have bk1_1 : 0 ≤ k1_1.toInt ∧ k1_1.toInt ≤ 900 := by rw [ek1_1]; exact fZ_of hI sx_1 rfl
  refine gG_call [(0, .ref 0), (1, .int a1)] ⟨rfl, rfl, trivial⟩ ?_
  show gG 3 zB_114 (mzBlk zB_114 0) [(0, .ref 0), (1, .int a1)] [] H 0 0 _
  refine g_iload_n rfl ?_
  refine g_if_lt (fun c93 => ?_) (fun c93 => ?_)
  · exfalso; omega
  · refine g_iload_n rfl ?_
    refine g_aload_n rfl ?_
    refine g_gfr hI sx_0 rfl ?_
    refine g_gfk hI sx_1 rfl ek1_1 ?_
    refine g_if2_le (fun c94 => ?_) (fun c94 => ?_)
    · refine g_aload_n rfl ?_
      refine g_gfr hI sx_0 rfl ?_
      refine g_invvv hI sx_11 rfl rfl rfl rfl (e_9 H hI hJ) (fun H95 r96 => ?_)
      obtain ⟨hIH95, hJH95, w97, m98, p99, p100, p101, p102, p103, p104⟩ := r96
      have e105 : k1_1 = fZ H95 1 1 := ek1_1.trans w97.symm
      have ie105 : k1_1.toInt = (fZ H95 1 1).toInt := by rw [← e105]
      refine g_aload_n rfl ?_
      refine g_gfr hIH95 sx_0 rfl ?_
      refine g_iload_n rfl ?_
      refine g_iconst (by decide) (fun v106 kv106 => ?_)
      refine g_invvi hIH95 sx_19 rfl rfl rfl rfl (e_38 (b := c) a1 (by omega) v106 (by omega) H95 hIH95 hJH95 (by omega) (bk_0x hp1 p99 p100 p101 p102 p103 p104)) (fun v109 H107 r108 => ?_)
      obtain ⟨hIH107, hJH107, bv109, p110⟩ := r108
      obtain ⟨T, k, t1, t2, t3, t4, t5, t6, t7, t8, t9⟩ := p110
      refine g_istore_n (l' := [(0, .ref 0), (1, .int a1), (2, .int v109)]) rfl rfl ?_
      refine g_aload_n rfl ?_
      refine g_iload_n rfl ?_
      refine g_invvi hIH107 sx_0 rfl rfl rfl rfl (e_116 v109 (by omega) H107 hIH107 hJH107 t6) (fun v113 H111 r112 => ?_)
      obtain ⟨hIH111, hJH111, p114, p115⟩ := r112
      exact g_iret ⟨_, rfl, hIH111, hJH111, (tx_mk (by omega) m98 t1 t2 t3 t4 t5 t7 t8 t9 p114 p115)⟩
    · refine g_nop ?_
      exfalso; omega
set_option maxRecDepth 4000 in
set_option maxHeartbeats 4000000 in
/-- X9.tell -/
theorem e_115a (a1 : Int32) (H : mzH) (hI : gI SX H) (hJ : JX H) (hp0 : ¬ (0 ≤ a1.toInt ∧ a1.toInt ≤ (fZ H 1 1).toInt)) : gCall 115 [.ref 0, .int a1] H (gRi (fun v H' => gI SX H' ∧ JX H' ∧ H' = H ∧ v.toInt = -2)) := by
  obtain ⟨k1_1, ek1_1⟩ : ∃ z, z = fZ H 1 1 := ⟨_, rfl⟩
  have ik1_1 : k1_1.toInt = (fZ H 1 1).toInt := by rw [← ek1_1]
  have bk1_1 : 0 ≤ k1_1.toInt ∧ k1_1.toInt ≤ 900 := by rw [ek1_1]; exact fZ_of hI sx_1 rfl
  refine gG_call [(0, .ref 0), (1, .int a1)] ⟨rfl, rfl, trivial⟩ ?_
  show gG 3 zB_115 (mzBlk zB_115 0) [(0, .ref 0), (1, .int a1)] [] H 0 0 _
  refine g_iload_n rfl ?_
  refine g_if_lt (fun c17 => ?_) (fun c17 => ?_)
  · refine g_bipush (by decide) (fun v18 kv18 => ?_)
    exact g_iret ⟨_, rfl, hI, hJ, rfl, (by omega)⟩
  · refine g_iload_n rfl ?_
    refine g_aload_n rfl ?_
    refine g_gfr hI sx_0 rfl ?_
    refine g_gfk hI sx_1 rfl ek1_1 ?_
    refine g_if2_le (fun c19 => ?_) (fun c19 => ?_)
    · exfalso; omega
    · refine g_nop ?_
      refine g_bipush (by decide) (fun v20 kv20 => ?_)
      exact g_iret ⟨_, rfl, hI, hJ, rfl, (by omega)⟩
set_option maxRecDepth 4000 in
set_option maxHeartbeats 4000000 in
/-- X9.tell -/
theorem e_115b {c : pB} (a1 : Int32) (H : mzH) (hI : gI SX H) (hJ : JX H) (hp0 : (0 ≤ a1.toInt ∧ a1.toInt ≤ (fZ H 1 1).toInt)) (hp1 : bkX H 3 c) : gCall 115 [.ref 0, .int a1] H (gRi (fun v H' => gI SX H' ∧ JX H' ∧ txX H H' a1.toInt.toNat 1 c v)) := by
  obtain ⟨k1_1, ek1_1⟩ : ∃ z, z = fZ H 1 1 := ⟨_, rfl⟩
  have ik1_1 : k1_1.toInt = (fZ H 1 1).toInt := by rw [← ek1_1]
  have bk1_1 : 0 ≤ k1_1.toInt ∧ k1_1.toInt ≤ 900 := by rw [ek1_1]; exact fZ_of hI sx_1 rfl
  refine gG_call [(0, .ref 0), (1, .int a1)] ⟨rfl, rfl, trivial⟩ ?_
  show gG 3 zB_115 (mzBlk zB_115 0) [(0, .ref 0), (1, .int a1)] [] H 0 0 _
  refine g_iload_n rfl ?_
  refine g_if_lt (fun c77 => ?_) (fun c77 => ?_)
  · exfalso; omega
  · refine g_iload_n rfl ?_
    refine g_aload_n rfl ?_
    refine g_gfr hI sx_0 rfl ?_
    refine g_gfk hI sx_1 rfl ek1_1 ?_
    refine g_if2_le (fun c78 => ?_) (fun c78 => ?_)
    · refine g_aload_n rfl ?_
      refine g_gfr hI sx_0 rfl ?_
      refine g_aload_n rfl ?_
      refine g_gfr hI sx_0 rfl ?_
      refine g_invvv hI sx_11 rfl rfl rfl rfl (e_10a H hI hJ) (fun H79 r80 => ?_)
      obtain ⟨hIH79, hJH79, w81, m82, p83, p84⟩ := r80
      have e85 : k1_1 = fZ H79 1 1 := ek1_1.trans w81.symm
      have ie85 : k1_1.toInt = (fZ H79 1 1).toInt := by rw [← e85]
      refine g_aload_n rfl ?_
      refine g_gfr hIH79 sx_0 rfl ?_
      refine g_iload_n rfl ?_
      refine g_iconst (by decide) (fun v86 kv86 => ?_)
      refine g_invvi hIH79 sx_19 rfl rfl rfl rfl (e_38 (b := c) a1 (by omega) v86 (by omega) H79 hIH79 hJH79 (by omega) (bkX_cp (fun f hf => (p83 f hf)) (fun k i h1 h2 => (p84 k i h1 h2)) hp1)) (fun v89 H87 r88 => ?_)
      obtain ⟨hIH87, hJH87, bv89, p90⟩ := r88
      obtain ⟨T, k, t1, t2, t3, t4, t5, t6, t7, t8, t9⟩ := p90
      refine g_istore_n (l' := [(0, .ref 0), (1, .int a1), (2, .int v89)]) rfl rfl ?_
      refine g_aload_n rfl ?_
      refine g_iload_n rfl ?_
      refine g_invvi hIH87 sx_0 rfl rfl rfl rfl (e_116 v89 (by omega) H87 hIH87 hJH87 t6) (fun v93 H91 r92 => ?_)
      obtain ⟨hIH91, hJH91, p94, p95⟩ := r92
      exact g_iret ⟨_, rfl, hIH91, hJH91, (tx_mk (by omega) m82 t1 t2 t3 t4 t5 t7 t8 t9 p94 p95)⟩
    · refine g_nop ?_
      exfalso; omega
