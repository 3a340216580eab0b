theorem tx_cw {H H1 H2 H3 : mzH} {b : pB} {w v : Int32} (k1 : kpN 11 18 H H1) (t8 : frE H1 H2) (cl : clE H2 H3 w.toInt b v) (cw : ¬ w.toInt = 0 → cvW H3) : kpC H H3 ∨ cvW H3 := by
  rcases cl.2.2 with ⟨d1, d2, d3⟩ | ⟨d1, _⟩
  · exact Or.inl (fun q hq => ⟨fun f => by rw [(d3 q hq).1, fZ_cg (t8 q (by omega)), (k1 q (by omega)).1], fun i => by rw [(d3 q hq).2, aZ_cg (t8 q (by omega)), (k1 q (by omega)).2]⟩)
  · exact Or.inr (cw d1)
set_option maxRecDepth 4000 in
set_option maxHeartbeats 4000000 in
/-- X9.close -/
theorem kw_116 {b : pB} (a1 : Int32) (ha1 : 0 ≤ a1.toInt ∧ a1.toInt ≤ 1) (H : mzH) (hI : gI SX H) (hJ : JX H) (hp0 : bkX H 11 b) : gCall 116 [.ref 0, .int a1] H (gRi (fun v H' => gI SX H' ∧ JX H' ∧ (fZ H' 1 1).toInt = 0 ∧ clE H H' a1.toInt b v ∧ (¬ a1.toInt = 0 → ∀ q, aZ H' 5 q = jO (vW H) (fZ H 11 7).toInt.toNat (fZ H 11 7).toInt.toNat q) ∧ (¬ a1.toInt = 0 → cvW H'))) := by
  refine gG_call [(0, .ref 0), (1, .int a1)] ⟨rfl, rfl, trivial⟩ ?_
  show gG 2 zB_116 (mzBlk zB_116 0) [(0, .ref 0), (1, .int a1)] [] H 0 0 _
  refine g_aload_n rfl ?_
  refine g_gfr hI sx_0 rfl ?_
  refine g_iconst (by decide) (fun v121 kv121 => ?_)
  refine g_pfi hI sx_1 rfl (by omega) (fun H122 eH122 hIH122 => ?_)
  have hJH122 : JX H122 := JX_sF eH122 hJ
  have e123 : v121 = fZ H122 1 1 := by rw [eH122, fZ_sF_eq hI sx_1 rfl]
  have ie123 : v121.toInt = (fZ H122 1 1).toInt := by rw [← e123]
  refine g_iload_n rfl ?_
  refine g_if_ne (fun c124 => ?_) (fun c124 => ?_)
  · refine g_aload_n rfl ?_
    refine g_gfr hIH122 sx_0 rfl ?_
    refine g_invvv hIH122 sx_11 rfl rfl rfl rfl (j_19 H122 hIH122 hJH122) (fun H125 r126 => ?_)
    obtain ⟨hIH125, hJH125, w127, m128, p129⟩ := r126
    have e130 : v121 = fZ H125 1 1 := e123.trans w127.symm
    have ie130 : v121.toInt = (fZ H125 1 1).toInt := by rw [← e130]
    refine g_aload_n rfl ?_
    refine g_gfr hIH125 sx_0 rfl ?_
    refine g_aload_n rfl ?_
    refine g_gfr hIH125 sx_0 rfl ?_
    refine g_invvv hIH125 sx_3 rfl rfl rfl rfl (e_10b H125 hIH125 hJH125) (fun H131 r132 => ?_)
    obtain ⟨hIH131, hJH131, w133, m134, p135, p136⟩ := r132
    have e137 : v121 = fZ H131 1 1 := e130.trans w133.symm
    have ie137 : v121.toInt = (fZ H131 1 1).toInt := by rw [← e137]
    refine g_aload_n rfl ?_
    refine g_gfr hIH131 sx_0 rfl ?_
    refine g_invvv hIH131 sx_24 rfl rfl rfl rfl (yw_52 H131 hIH131 hJH131) (fun H138 r139 => ?_)
    obtain ⟨hIH138, hJH138, w140, m141, p142⟩ := r139
    have e143 : v121 = fZ H138 1 1 := e137.trans w140.symm
    have ie143 : v121.toInt = (fZ H138 1 1).toInt := by rw [← e143]
    refine g_aload_n rfl ?_
    refine g_gfr hIH138 sx_0 rfl ?_
    refine g_invvv hIH138 sx_54 rfl rfl rfl rfl (s_1 H138 hIH138 hJH138) (fun H144 r145 => ?_)
    obtain ⟨hIH144, hJH144, w146, m147⟩ := r145
    have e148 : v121 = fZ H144 1 1 := e143.trans w146.symm
    have ie148 : v121.toInt = (fZ H144 1 1).toInt := by rw [← e148]
    refine g_aload_n rfl ?_
    refine g_gfr hIH144 sx_0 rfl ?_
    refine g_gfi hIH144 sx_19 rfl (fun v149 ev149 lv149 uv149 => ?_)
    exact g_iret ⟨_, rfl, hIH144, hJH144, (by omega), (cl_mk (by omega) hp0 eH122 m128 p135 p136 m134 m141 (kpB_X m147) ev149), (fun _ => cl_w eH122 p129 p136 (kpB_t m141 (kpB_X m147))), (fun _ => cvW_kp m147 p142)⟩
  · refine g_iconst (by decide) (fun v150 kv150 => ?_)
    exact g_iret ⟨_, rfl, hIH122, hJH122, (by omega), ⟨by rw [eH122, fZ_sF_nc (by decide)], by rw [eH122, fZ_sF_nc (by decide)], Or.inl ⟨by omega, by omega, fun q h => ⟨fun f => by rw [eH122, fZ_sF_nc (by omega)], fun i => by rw [eH122, aZ_sF]⟩⟩⟩, (fun h => absurd h (by omega)), (fun h => absurd h (by omega))⟩
set_option maxRecDepth 4000 in
set_option maxHeartbeats 4000000 in
/-- X9.text -/
theorem kw_114b {c : pB} (a1 : Int32) (H : mzH) (hI : gI SX H) (hJ : JX H) (hp0 : (0 ≤ a1.toInt ∧ a1.toInt ≤ (fZ H 1 1).toInt)) (hp1 : c = pB0) : gCall 114 [.ref 0, .int a1] H (gRi (fun v H' => gI SX H' ∧ JX H' ∧ (∃ W : Nat → Int, (∀ q, q < 64 → W q = -2) ∧ txW H H' a1.toInt.toNat 0 c v W) ∧ (kpC H H' ∨ cvW H'))) := by
  obtain ⟨k1_1, ek1_1⟩ : ∃ z, z = fZ H 1 1 := ⟨_, rfl⟩
  have ik1_1 : k1_1.toInt = (fZ H 1 1).toInt := by rw [← ek1_1]
  have bk1_1 : 0 ≤ k1_1.toInt ∧ k1_1.toInt ≤ 900 := by rw [ek1_1]; exact fZ_of hI sx_1 rfl
  refine gG_call [(0, .ref 0), (1, .int a1)] ⟨rfl, rfl, trivial⟩ ?_
  show gG 3 zB_114 (mzBlk zB_114 0) [(0, .ref 0), (1, .int a1)] [] H 0 0 _
  refine g_iload_n rfl ?_
  refine g_if_lt (fun c105 => ?_) (fun c105 => ?_)
  · exfalso; omega
  · refine g_iload_n rfl ?_
    refine g_aload_n rfl ?_
    refine g_gfr hI sx_0 rfl ?_
    refine g_gfk hI sx_1 rfl ek1_1 ?_
    refine g_if2_le (fun c106 => ?_) (fun c106 => ?_)
    · refine g_aload_n rfl ?_
      refine g_gfr hI sx_0 rfl ?_
      refine g_invvv hI sx_11 rfl rfl rfl rfl (k_9 H hI hJ) (fun H107 r108 => ?_)
      obtain ⟨hIH107, hJH107, w109, m110, p111, p112, p113, p114, p115, p116, p117⟩ := r108
      have e118 : k1_1 = fZ H107 1 1 := ek1_1.trans w109.symm
      have ie118 : k1_1.toInt = (fZ H107 1 1).toInt := by rw [← e118]
      refine g_aload_n rfl ?_
      refine g_gfr hIH107 sx_0 rfl ?_
      refine g_iload_n rfl ?_
      refine g_iconst (by decide) (fun v119 kv119 => ?_)
      refine g_invvi hIH107 sx_19 rfl rfl rfl rfl (k_38 (b := c) a1 (by omega) v119 (by omega) H107 hIH107 hJH107 (by omega) (bk_0x hp1 p111 p112 p113 p114 p115 p116)) (fun v122 H120 r121 => ?_)
      obtain ⟨hIH120, hJH120, bv122, p123⟩ := r121
      obtain ⟨T, k, t1, t2, t3, t4, t5, t6, t7, t8, t9, t10⟩ := p123
      refine g_istore_n (l' := [(0, .ref 0), (1, .int a1), (2, .int v122)]) rfl rfl ?_
      refine g_aload_n rfl ?_
      refine g_iload_n rfl ?_
      refine g_invvi hIH120 sx_0 rfl rfl rfl rfl (kw_116 v122 (by omega) H120 hIH120 hJH120 t6) (fun v126 H124 r125 => ?_)
      obtain ⟨hIH124, hJH124, p127, p128, p129, p130⟩ := r125
      exact g_iret ⟨_, rfl, hIH124, hJH124, ⟨wX H107, p117, tx_mkw (by omega) m110 t1 t2 t3 t4 t5 t6 t7 t8 t9 t10 p127 p128 p129⟩, (tx_cw m110 t8 p128 p130)⟩
    · refine g_nop ?_
      exfalso; omega
set_option maxRecDepth 4000 in
set_option maxHeartbeats 4000000 in
/-- X9.tell -/
theorem kw_115b {c : pB} (a1 : Int32) (H : mzH) (hI : gI SX H) (hJ : JX H) (hp0 : (0 ≤ a1.toInt ∧ a1.toInt ≤ (fZ H 1 1).toInt)) (hp1 : bkX H 3 c) : gCall 115 [.ref 0, .int a1] H (gRi (fun v H' => gI SX H' ∧ JX H' ∧ (∃ W : Nat → Int, (∀ q, W q = (aZ H 5 q).toInt) ∧ txW H H' a1.toInt.toNat 1 c v W) ∧ (kpC H H' ∨ cvW H'))) := by
  obtain ⟨k1_1, ek1_1⟩ : ∃ z, z = fZ H 1 1 := ⟨_, rfl⟩
  have ik1_1 : k1_1.toInt = (fZ H 1 1).toInt := by rw [← ek1_1]
  have bk1_1 : 0 ≤ k1_1.toInt ∧ k1_1.toInt ≤ 900 := by rw [ek1_1]; exact fZ_of hI sx_1 rfl
  refine gG_call [(0, .ref 0), (1, .int a1)] ⟨rfl, rfl, trivial⟩ ?_
  show gG 3 zB_115 (mzBlk zB_115 0) [(0, .ref 0), (1, .int a1)] [] H 0 0 _
  refine g_iload_n rfl ?_
  refine g_if_lt (fun c85 => ?_) (fun c85 => ?_)
  · exfalso; omega
  · refine g_iload_n rfl ?_
    refine g_aload_n rfl ?_
    refine g_gfr hI sx_0 rfl ?_
    refine g_gfk hI sx_1 rfl ek1_1 ?_
    refine g_if2_le (fun c86 => ?_) (fun c86 => ?_)
    · refine g_aload_n rfl ?_
      refine g_gfr hI sx_0 rfl ?_
      refine g_aload_n rfl ?_
      refine g_gfr hI sx_0 rfl ?_
      refine g_invvv hI sx_11 rfl rfl rfl rfl (e_10a H hI hJ) (fun H87 r88 => ?_)
      obtain ⟨hIH87, hJH87, w89, m90, p91, p92⟩ := r88
      have e93 : k1_1 = fZ H87 1 1 := ek1_1.trans w89.symm
      have ie93 : k1_1.toInt = (fZ H87 1 1).toInt := by rw [← e93]
      refine g_aload_n rfl ?_
      refine g_gfr hIH87 sx_0 rfl ?_
      refine g_iload_n rfl ?_
      refine g_iconst (by decide) (fun v94 kv94 => ?_)
      refine g_invvi hIH87 sx_19 rfl rfl rfl rfl (k_38 (b := c) a1 (by omega) v94 (by omega) H87 hIH87 hJH87 (by omega) (bkX_cp (fun f hf => (p91 f hf)) (fun k i h1 h2 => (p92 k i h1 h2)) hp1)) (fun v97 H95 r96 => ?_)
      obtain ⟨hIH95, hJH95, bv97, p98⟩ := r96
      obtain ⟨T, k, t1, t2, t3, t4, t5, t6, t7, t8, t9, t10⟩ := p98
      refine g_istore_n (l' := [(0, .ref 0), (1, .int a1), (2, .int v97)]) rfl rfl ?_
      refine g_aload_n rfl ?_
      refine g_iload_n rfl ?_
      refine g_invvi hIH95 sx_0 rfl rfl rfl rfl (kw_116 v97 (by omega) H95 hIH95 hJH95 t6) (fun v101 H99 r100 => ?_)
      obtain ⟨hIH99, hJH99, p102, p103, p104, p105⟩ := r100
      exact g_iret ⟨_, rfl, hIH99, hJH99, ⟨wX H87, (fun q => by unfold wX; rw [show aZ H87 13 q = aZ H 5 q from p92 2 q (by decide) (by decide)]), tx_mkw (by omega) m90 t1 t2 t3 t4 t5 t6 t7 t8 t9 t10 p102 p103 p104⟩, (tx_cw m90 t8 p103 p105)⟩
    · refine g_nop ?_
      exfalso; omega
