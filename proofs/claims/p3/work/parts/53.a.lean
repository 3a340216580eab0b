set_option maxRecDepth 4000 in
set_option maxHeartbeats 4000000 in
/-- X0.forget -/
theorem s_1 (H : mzH) (hI : gI SX H) (hJ : JX H) : gCall 1 [.ref 54] H (gRv (fun H' => gI SX H' ∧ JX H' ∧ fZ H' 1 1 = fZ H 1 1)) := by
  obtain ⟨k1_1, ek1_1⟩ : ∃ z, z = fZ H 1 1 := ⟨_, rfl⟩
  have ik1_1 : k1_1.toInt = (fZ H 1 1).toInt := by rw [← ek1_1]
  have bk1_1 : 0 ≤ k1_1.toInt ∧ k1_1.toInt ≤ 900 := by rw [ek1_1]; exact fZ_of hI sx_1 rfl
  refine gG_call [(0, .ref 54)] ⟨rfl, trivial⟩ ?_
  show gG 1 zB_1 (mzBlk zB_1 0) [(0, .ref 54)] [] H 0 0 _
  refine g_aload_n rfl ?_
  refine g_iconst (by decide) (fun v25 kv25 => ?_)
  refine g_pfz hI sx_54 rfl (by omega) (fun H26 eH26 hIH26 => ?_)
  have hJH26 : JX H26 := JX_sF eH26 hJ
  have e27 : k1_1 = fZ H26 1 1 := by rw [eH26, fZ_sF_nc (by omega)]; exact ek1_1
  refine g_aload_n rfl ?_
  refine g_iconst (by decide) (fun v28 kv28 => ?_)
  refine g_pfz hIH26 sx_54 rfl (by omega) (fun H29 eH29 hIH29 => ?_)
  have hJH29 : JX H29 := JX_sF eH29 hJH26
  have e30 : k1_1 = fZ H29 1 1 := by rw [eH29, fZ_sF_nc (by omega)]; exact e27
  exact g_ret ⟨rfl, hIH29, hJH29, (e30.symm.trans ek1_1)⟩
set_option maxRecDepth 4000 in
set_option maxHeartbeats 4000000 in
/-- X8.clear -/
theorem s_83 (w : Nat) (hw : zWo w) (H : mzH) (hI : gI SX H) (hJ : JX H) : gCall 83 [.ref w] H (gRv (fun H' => gI SX H' ∧ JX H' ∧ fZ H' 1 1 = fZ H 1 1)) := by
  obtain ⟨hwr, hw0, hw1, hw2, hw3, hw4, hw5, hw6⟩ := id hw
  obtain ⟨k1_1, ek1_1⟩ : ∃ z, z = fZ H 1 1 := ⟨_, rfl⟩
  have ik1_1 : k1_1.toInt = (fZ H 1 1).toInt := by rw [← ek1_1]
  have bk1_1 : 0 ≤ k1_1.toInt ∧ k1_1.toInt ≤ 900 := by rw [ek1_1]; exact fZ_of hI sx_1 rfl
  refine gG_call [(0, .ref w)] ⟨rfl, trivial⟩ ?_
  show gG 1 zB_83 (mzBlk zB_83 0) [(0, .ref w)] [] H 0 0 _
  refine g_aload_n rfl ?_
  refine g_gfr hI hw0 rfl ?_
  refine g_iconst (by decide) (fun v121 kv121 => ?_)
  refine g_invtv rfl rfl rfl (s_fill (w + 1) hw1 (by decide) v121 (by omega) H hI) (fun H122 r123 => ?_)
  obtain ⟨hIH122, fH122, mH122, _⟩ := r123
  have hJH122 : JX H122 := JX_of hJ (fun k => ⟨mH122 (by omega), mH122 (by omega), mH122 (by omega), mH122 (by omega)⟩)
  have e125 : k1_1 = fZ H122 1 1 := ek1_1.trans (fH122 _ _).symm
  refine g_aload_n rfl ?_
  refine g_gfr hIH122 hw0 rfl ?_
  refine g_bipush (by decide) (fun v126 kv126 => ?_)
  refine g_invtv rfl rfl rfl (s_fill (w + 2) hw2 (by decide) v126 (by omega) H122 hIH122) (fun H127 r128 => ?_)
  obtain ⟨hIH127, fH127, mH127, _⟩ := r128
  have hJH127 : JX H127 := JX_of hJH122 (fun k => ⟨mH127 (by omega), mH127 (by omega), mH127 (by omega), mH127 (by omega)⟩)
  have e130 : k1_1 = fZ H127 1 1 := e125.trans (fH127 _ _).symm
  refine g_aload_n rfl ?_
  refine g_gfr hIH127 hw0 rfl ?_
  refine g_iconst (by decide) (fun v131 kv131 => ?_)
  refine g_invtv rfl rfl rfl (s_fill (w + 3) hw3 (by decide) v131 (by omega) H127 hIH127) (fun H132 r133 => ?_)
  obtain ⟨hIH132, fH132, mH132, _⟩ := r133
  have hJH132 : JX H132 := JX_of hJH127 (fun k => ⟨mH132 (by omega), mH132 (by omega), mH132 (by omega), mH132 (by omega)⟩)
  have e135 : k1_1 = fZ H132 1 1 := e130.trans (fH132 _ _).symm
  refine g_aload_n rfl ?_
  refine g_gfr hIH132 hw0 rfl ?_
  refine g_iconst (by decide) (fun v136 kv136 => ?_)
  refine g_invtv rfl rfl rfl (s_fill (w + 4) hw4 (by decide) v136 (by omega) H132 hIH132) (fun H137 r138 => ?_)
  obtain ⟨hIH137, fH137, mH137, _⟩ := r138
  have hJH137 : JX H137 := JX_of hJH132 (fun k => ⟨mH137 (by omega), mH137 (by omega), mH137 (by omega), mH137 (by omega)⟩)
  have e140 : k1_1 = fZ H137 1 1 := e135.trans (fH137 _ _).symm
  refine g_aload_n rfl ?_
  refine g_gfr hIH137 hw0 rfl ?_
  refine g_bipush (by decide) (fun v141 kv141 => ?_)
  refine g_invtv rfl rfl rfl (s_fill (w + 5) hw5 (by decide) v141 (by omega) H137 hIH137) (fun H142 r143 => ?_)
  obtain ⟨hIH142, fH142, mH142, _⟩ := r143
  have hJH142 : JX H142 := JX_of hJH137 (fun k => ⟨mH142 (by omega), mH142 (by omega), mH142 (by omega), mH142 (by omega)⟩)
  have e145 : k1_1 = fZ H142 1 1 := e140.trans (fH142 _ _).symm
  refine g_aload_n rfl ?_
  refine g_gfr hIH142 hw0 rfl ?_
  refine g_iconst (by decide) (fun v146 kv146 => ?_)
  refine g_invtv rfl rfl rfl (s_fill (w + 6) hw6 (by decide) v146 (by omega) H142 hIH142) (fun H147 r148 => ?_)
  obtain ⟨hIH147, fH147, mH147, _⟩ := r148
  have hJH147 : JX H147 := JX_of hJH142 (fun k => ⟨mH147 (by omega), mH147 (by omega), mH147 (by omega), mH147 (by omega)⟩)
  have e150 : k1_1 = fZ H147 1 1 := e145.trans (fH147 _ _).symm
  exact g_ret ⟨rfl, hIH147, hJH147, (e150.symm.trans ek1_1)⟩
set_option maxRecDepth 4000 in
set_option maxHeartbeats 4000000 in
/-- X8.become -/
theorem s_84 (w : Nat) (hw : zWo w) (u : Nat) (hu : zWo u) (H : mzH) (hI : gI SX H) (hJ : JX H) : gCall 84 [.ref w, .ref u] H (gRv (fun H' => gI SX H' ∧ JX H' ∧ fZ H' 1 1 = fZ H 1 1)) := by
  obtain ⟨hwr, hw0, hw1, hw2, hw3, hw4, hw5, hw6⟩ := id hw
  obtain ⟨hur, hu0, hu1, hu2, hu3, hu4, hu5, hu6⟩ := id hu
  obtain ⟨k1_1, ek1_1⟩ : ∃ z, z = fZ H 1 1 := ⟨_, rfl⟩
  have ik1_1 : k1_1.toInt = (fZ H 1 1).toInt := by rw [← ek1_1]
  have bk1_1 : 0 ≤ k1_1.toInt ∧ k1_1.toInt ≤ 900 := by rw [ek1_1]; exact fZ_of hI sx_1 rfl
  refine gG_call [(0, .ref w), (1, .ref u)] ⟨rfl, rfl, trivial⟩ ?_
  show gG 2 zB_84 (mzBlk zB_84 0) [(0, .ref w), (1, .ref u)] [] H 0 0 _
  refine g_aload_n rfl ?_
  refine g_gfr hI hu0 rfl ?_
  refine g_iconst (by decide) (fun v121 kv121 => ?_)
  refine g_aload_n rfl ?_
  refine g_gfr hI hw0 rfl ?_
  refine g_iconst (by decide) (fun v122 kv122 => ?_)
  refine g_bipush (by decide) (fun v123 kv123 => ?_)
  refine g_acp hI hw1 hu1 (by decide) (by decide) (by omega) (by omega) (by omega) rfl (fun H124 eH124 hIH124 => ?_)
  have hJH124 : JX H124 := JX_sC (by omega) eH124 hJ
  have e125 : k1_1 = fZ H124 1 1 := by rw [eH124, fZ_sC hI hw1 hu1]; exact ek1_1
  refine g_aload_n rfl ?_
  refine g_gfr hIH124 hu0 rfl ?_
  refine g_iconst (by decide) (fun v126 kv126 => ?_)
  refine g_aload_n rfl ?_
  refine g_gfr hIH124 hw0 rfl ?_
  refine g_iconst (by decide) (fun v127 kv127 => ?_)
  refine g_bipush (by decide) (fun v128 kv128 => ?_)
  refine g_acp hIH124 hw2 hu2 (by decide) (by decide) (by omega) (by omega) (by omega) rfl (fun H129 eH129 hIH129 => ?_)
  have hJH129 : JX H129 := JX_sC (by omega) eH129 hJH124
  have e130 : k1_1 = fZ H129 1 1 := by rw [eH129, fZ_sC hIH124 hw2 hu2]; exact e125
  refine g_aload_n rfl ?_
  refine g_gfr hIH129 hu0 rfl ?_
  refine g_iconst (by decide) (fun v131 kv131 => ?_)
  refine g_aload_n rfl ?_
  refine g_gfr hIH129 hw0 rfl ?_
  refine g_iconst (by decide) (fun v132 kv132 => ?_)
  refine g_bipush (by decide) (fun v133 kv133 => ?_)
  refine g_acp hIH129 hw3 hu3 (by decide) (by decide) (by omega) (by omega) (by omega) rfl (fun H134 eH134 hIH134 => ?_)
  have hJH134 : JX H134 := JX_sC (by omega) eH134 hJH129
  have e135 : k1_1 = fZ H134 1 1 := by rw [eH134, fZ_sC hIH129 hw3 hu3]; exact e130
  refine g_aload_n rfl ?_
  refine g_gfr hIH134 hu0 rfl ?_
  refine g_iconst (by decide) (fun v136 kv136 => ?_)
  refine g_aload_n rfl ?_
  refine g_gfr hIH134 hw0 rfl ?_
  refine g_iconst (by decide) (fun v137 kv137 => ?_)
  refine g_bipush (by decide) (fun v138 kv138 => ?_)
  refine g_acp hIH134 hw4 hu4 (by decide) (by decide) (by omega) (by omega) (by omega) rfl (fun H139 eH139 hIH139 => ?_)
  have hJH139 : JX H139 := JX_sC (by omega) eH139 hJH134
  have e140 : k1_1 = fZ H139 1 1 := by rw [eH139, fZ_sC hIH134 hw4 hu4]; exact e135
  refine g_aload_n rfl ?_
  refine g_gfr hIH139 hu0 rfl ?_
  refine g_iconst (by decide) (fun v141 kv141 => ?_)
  refine g_aload_n rfl ?_
  refine g_gfr hIH139 hw0 rfl ?_
  refine g_iconst (by decide) (fun v142 kv142 => ?_)
  refine g_bipush (by decide) (fun v143 kv143 => ?_)
  refine g_acp hIH139 hw5 hu5 (by decide) (by decide) (by omega) (by omega) (by omega) rfl (fun H144 eH144 hIH144 => ?_)
  have hJH144 : JX H144 := JX_sC (by omega) eH144 hJH139
  have e145 : k1_1 = fZ H144 1 1 := by rw [eH144, fZ_sC hIH139 hw5 hu5]; exact e140
  refine g_aload_n rfl ?_
  refine g_gfr hIH144 hu0 rfl ?_
  refine g_iconst (by decide) (fun v146 kv146 => ?_)
  refine g_aload_n rfl ?_
  refine g_gfr hIH144 hw0 rfl ?_
  refine g_iconst (by decide) (fun v147 kv147 => ?_)
  refine g_bipush (by decide) (fun v148 kv148 => ?_)
  refine g_acp hIH144 hw6 hu6 (by decide) (by decide) (by omega) (by omega) (by omega) rfl (fun H149 eH149 hIH149 => ?_)
  have hJH149 : JX H149 := JX_sC (by omega) eH149 hJH144
  have e150 : k1_1 = fZ H149 1 1 := by rw [eH149, fZ_sC hIH144 hw6 hu6]; exact e145
  exact g_ret ⟨rfl, hIH149, hJH149, (e150.symm.trans ek1_1)⟩
set_option maxRecDepth 4000 in
set_option maxHeartbeats 4000000 in
/-- X2.hourAt -/
theorem s_27 (c : Nat) (hc : zCo c) (a1 : Int32) (ha1 : 0 ≤ a1.toInt ∧ a1.toInt ≤ 59) (H : mzH) (hI : gI SX H) (hJ : JX H) : gCall 27 [.ref c, .int a1] H (gRi (fun v H' => H = H')) := by
  obtain ⟨hcr, hc0, hc1, hc2⟩ := id hc
  refine gG_call [(0, .ref c), (1, .int a1)] ⟨rfl, rfl, trivial⟩ ?_
  show gG 2 zB_27 (mzBlk zB_27 0) [(0, .ref c), (1, .int a1)] [] H 0 0 _
  refine g_aload_n rfl ?_
  refine g_gfr hI hc0 rfl ?_
  refine g_aload_n rfl ?_
  refine g_gfr hI hc0 rfl ?_
  refine g_iload_n rfl ?_
  refine g_iaload hI hc2 rfl (by omega) (fun v9 ev9 lv9 uv9 => ?_)
  refine g_iaload hI hc1 rfl (by omega) (fun v10 ev10 lv10 uv10 => ?_)
  exact g_iret ⟨_, rfl, rfl⟩
set_option maxRecDepth 4000 in
set_option maxHeartbeats 4000000 in
/-- X8.isMade -/
theorem s_88 (w : Nat) (hw : zWo w) (a1 : Int32) (ha1 : 0 ≤ a1.toInt ∧ a1.toInt ≤ 39) (H : mzH) (hI : gI SX H) (hJ : JX H) : gCall 88 [.ref w, .int a1] H (gRi (fun v H' => H = H' ∧ (0 ≤ v.toInt ∧ v.toInt ≤ 1))) := by
  obtain ⟨hwr, hw0, hw1, hw2, hw3, hw4, hw5, hw6⟩ := id hw
  refine gG_call [(0, .ref w), (1, .int a1)] ⟨rfl, rfl, trivial⟩ ?_
  show gG 2 zB_88 (mzBlk zB_88 0) [(0, .ref w), (1, .int a1)] [] H 0 0 _
  refine g_aload_n rfl ?_
  refine g_gfr hI hw0 rfl ?_
  refine g_iload_n rfl ?_
  refine g_iaload hI hw1 rfl (by omega) (fun v21 ev21 lv21 uv21 => ?_)
  refine g_iconst (by decide) (fun v22 kv22 => ?_)
  refine g_if2_eq (fun c23 => ?_) (fun c23 => ?_)
  · refine g_iconst (by decide) (fun v24 kv24 => ?_)
    refine g_nop ?_
    exact g_zret (by omega) ⟨_, rfl, rfl, (by omega)⟩
  · refine g_iconst (by decide) (fun v25 kv25 => ?_)
    refine g_goto ?_
    exact g_zret (by omega) ⟨_, rfl, rfl, (by omega)⟩
set_option maxRecDepth 4000 in
set_option maxHeartbeats 4000000 in
/-- X8.has -/
theorem s_85 (w : Nat) (hw : zWo w) (a1 : Int32) (ha1 : 0 ≤ a1.toInt ∧ a1.toInt ≤ 39) (a2 : Int32) (H : mzH) (hI : gI SX H) (hJ : JX H) : gCall 85 [.ref w, .int a1, .int a2] H (gRi (fun v H' => H = H' ∧ (0 ≤ v.toInt ∧ v.toInt ≤ 1))) := by
  obtain ⟨hwr, hw0, hw1, hw2, hw3, hw4, hw5, hw6⟩ := id hw
  refine gG_call [(0, .ref w), (1, .int a1), (2, .int a2)] ⟨rfl, rfl, rfl, trivial⟩ ?_
  show gG 3 zB_85 (mzBlk zB_85 0) [(0, .ref w), (1, .int a1), (2, .int a2)] [] H 0 0 _
  refine g_aload_n rfl ?_
  refine g_gfr hI hw0 rfl ?_
  refine g_iload_n rfl ?_
  refine g_iaload hI hw6 rfl (by omega) (fun v21 ev21 lv21 uv21 => ?_)
  refine g_iload_n rfl ?_
  refine g_iand' (fun v22 _ => ?_)
  refine g_if_eq (fun c23 => ?_) (fun c23 => ?_)
  · refine g_iconst (by decide) (fun v24 kv24 => ?_)
    refine g_nop ?_
    exact g_zret (by omega) ⟨_, rfl, rfl, (by omega)⟩
  · refine g_iconst (by decide) (fun v25 kv25 => ?_)
    refine g_goto ?_
    exact g_zret (by omega) ⟨_, rfl, rfl, (by omega)⟩
set_option maxRecDepth 4000 in
set_option maxHeartbeats 4000000 in
/-- X8.topmost -/
theorem s_89 (w : Nat) (hw : zWo w) (a1 : Int32) (ha1 : 0 ≤ a1.toInt ∧ a1.toInt ≤ 39) (H : mzH) (hI : gI SX H) (hJ : JX H) : gCall 89 [.ref w, .int a1] H (gRi (fun v H' => H = H' ∧ (0 ≤ v.toInt ∧ v.toInt ≤ 39))) := by
  obtain ⟨hwr, hw0, hw1, hw2, hw3, hw4, hw5, hw6⟩ := id hw
  refine gG_call [(0, .ref w), (1, .int a1)] ⟨rfl, rfl, trivial⟩ ?_
  show gG 4 zB_89 (mzBlk zB_89 0) [(0, .ref w), (1, .int a1)] [] H 0 0 _
  refine g_iload_n rfl ?_
  refine g_istore_n (l' := [(0, .ref w), (1, .int a1), (2, .int a1)]) rfl rfl ?_
  refine g_iconst (by decide) (fun v53 kv53 => ?_)
  refine g_istore_n (l' := [(0, .ref w), (1, .int a1), (2, .int a1), (3, .int v53)]) rfl rfl ?_
  refine g_nop ?_
  have L56 : ∀ (N : Nat) (v54 : Int32) (v55 : Int32), (0 ≤ v54.toInt ∧ v54.toInt ≤ 39) → (0 ≤ v55.toInt ∧ v55.toInt ≤ 2) → (2 - v55.toInt).toNat < N → gG 4 zB_89 (mzBlk zB_89 1) [(0, .ref w), (1, .int a1), (2, .int v54), (3, .int v55)] [] H 0 0 (gRi (fun v H' => H = H' ∧ (0 ≤ v.toInt ∧ v.toInt ≤ 39))) := by
    intro N
    induction N with
    | zero => intro v54 v55 bv54 bv55 hmL56; exact absurd hmL56 (Nat.not_lt_zero _)
    | succ N ihL56 =>
      intro v54 v55 bv54 bv55 hmL56
      refine g_iload_n rfl ?_
      refine g_iconst (by decide) (fun v57 kv57 => ?_)
      refine g_if2_ge (fun c58 => ?_) (fun c58 => ?_)
      · refine g_iload_n rfl ?_
        exact g_iret ⟨_, rfl, rfl, (by omega)⟩
      · refine g_aload_n rfl ?_
        refine g_gfr hI hw0 rfl ?_
        refine g_iload_n rfl ?_
        refine g_iaload hI hw2 rfl (by omega) (fun v59 ev59 lv59 uv59 => ?_)
        refine g_if_lt (fun c60 => ?_) (fun c60 => ?_)
        · refine g_iload_n rfl ?_
          exact g_iret ⟨_, rfl, rfl, (by omega)⟩
        · refine g_aload_n rfl ?_
          refine g_gfr hI hw0 rfl ?_
          refine g_iload_n rfl ?_
          refine g_ialoadk hI hw2 rfl (by omega) ev59 ?_
          refine g_istore_n (l' := [(0, .ref w), (1, .int a1), (2, .int v59), (3, .int v55)]) rfl rfl ?_
          refine g_iinc (l' := (fun v61 => [(0, .ref w), (1, .int a1), (2, .int v59), (3, .int v61)])) rfl rfl (by decide) (by omega) (fun _ => rfl) (fun v61 ev61 => ?_)
          refine g_goto ?_
          exact ihL56 v59 v61 (by omega) (by omega) (by omega)
  exact L56 _ a1 v53 (by omega) (by omega) (Nat.lt_succ_self _)
set_option maxRecDepth 4000 in
set_option maxHeartbeats 4000000 in
/-- X8.heldAtOnce -/
theorem s_103 (w : Nat) (hw : zWo w) (a1 : Int32) (H : mzH) (hI : gI SX H) (hJ : JX H) : gCall 103 [.ref w, .int a1] H (gRi (fun v H' => H = H')) := by
  obtain ⟨hwr, hw0, hw1, hw2, hw3, hw4, hw5, hw6⟩ := id hw
  refine gG_call [(0, .ref w), (1, .int a1)] ⟨rfl, rfl, trivial⟩ ?_
  show gG 4 zB_103 (mzBlk zB_103 0) [(0, .ref w), (1, .int a1)] [] H 0 0 _
  refine g_iconst (by decide) (fun v399 kv399 => ?_)
  refine g_istore_n (l' := [(0, .ref w), (1, .int a1), (2, .int v399)]) rfl rfl ?_
  refine g_iconst (by decide) (fun v400 kv400 => ?_)
  refine g_istore_n (l' := [(0, .ref w), (1, .int a1), (2, .int v399), (3, .int v400)]) rfl rfl ?_
  refine g_nop ?_
  have L403 : ∀ (N : Nat) (v401 : Int32) (v402 : Int32), (0 ≤ v402.toInt ∧ v402.toInt ≤ 40) → (40 - v402.toInt).toNat < N → gG 4 zB_103 (mzBlk zB_103 1) [(0, .ref w), (1, .int a1), (2, .int v401), (3, .int v402)] [] H 0 0 (gRi (fun v H' => H = H')) := by
    intro N
    induction N with
    | zero => intro v401 v402 bv402 hmL403; exact absurd hmL403 (Nat.not_lt_zero _)
    | succ N ihL403 =>
      intro v401 v402 bv402 hmL403
      refine g_iload_n rfl ?_
      refine g_bipush (by decide) (fun v404 kv404 => ?_)
      refine g_if2_ge (fun c405 => ?_) (fun c405 => ?_)
      · refine g_iload_n rfl ?_
        exact g_iret ⟨_, rfl, rfl⟩
      · refine g_iload_n rfl ?_
        refine g_aload_n rfl ?_
        refine g_gfr hI hw0 rfl ?_
        refine g_iload_n rfl ?_
        refine g_iaload hI hw2 rfl (by omega) (fun v406 ev406 lv406 uv406 => ?_)
        refine g_iload_n rfl ?_
        refine g_if2_ne (fun c407 => ?_) (fun c407 => ?_)
        · refine g_iconst (by decide) (fun v408 kv408 => ?_)
          refine g_nop ?_
          refine g_iadd (by have := gz_any v401; omega) (fun v409 ev409 => ?_)
          refine g_istore_n (l' := [(0, .ref w), (1, .int a1), (2, .int v409), (3, .int v402)]) rfl rfl ?_
          refine g_iinc (l' := (fun v410 => [(0, .ref w), (1, .int a1), (2, .int v409), (3, .int v410)])) rfl rfl (by decide) (by omega) (fun _ => rfl) (fun v410 ev410 => ?_)
          refine g_goto ?_
          exact ihL403 v409 v410 (by omega) (by omega)
        · refine g_iconst (by decide) (fun v411 kv411 => ?_)
          refine g_goto ?_
          refine g_iadd' (fun v412 _ => ?_)
          refine g_istore_n (l' := [(0, .ref w), (1, .int a1), (2, .int v412), (3, .int v402)]) rfl rfl ?_
          refine g_iinc (l' := (fun v413 => [(0, .ref w), (1, .int a1), (2, .int v412), (3, .int v413)])) rfl rfl (by decide) (by omega) (fun _ => rfl) (fun v413 ev413 => ?_)
          refine g_goto ?_
          exact ihL403 v412 v413 (by omega) (by omega)
  exact L403 _ v399 v400 (by omega) (Nat.lt_succ_self _)
set_option maxRecDepth 4000 in
set_option maxHeartbeats 4000000 in
/-- X8.objectionToPack -/
theorem s_95 (w : Nat) (hw : zWo w) (b : Nat) (hb : zBo b) (a2 : Int32) (ha2 : 0 ≤ a2.toInt ∧ a2.toInt ≤ 39) (a3 : Int32) (ha3 : 0 ≤ a3.toInt ∧ a3.toInt ≤ 39) (H : mzH) (hI : gI SX H) (hJ : JX H) : gCall 95 [.ref w, .ref b, .int a2, .int a3] H (gRi (fun v H' => H = H')) := by
  obtain ⟨hwr, hw0, hw1, hw2, hw3, hw4, hw5, hw6⟩ := id hw
  obtain ⟨hbr, hb0, hb1, hb2, hb3, hb4, hb5, hb6, hb7⟩ := id hb
  refine gG_call [(0, .ref w), (1, .ref b), (2, .int a2), (3, .int a3)] ⟨rfl, rfl, rfl, rfl, trivial⟩ ?_
  show gG 7 zB_95 (mzBlk zB_95 0) [(0, .ref w), (1, .ref b), (2, .int a2), (3, .int a3)] [] H 0 0 _
  refine g_aload_n rfl ?_
  refine g_iload_n rfl ?_
  refine g_invvi hI hw0 rfl rfl rfl rfl (s_89 w hw a2 (by omega) H hI hJ) (fun v207 H205 r206 => ?_)
  obtain ⟨rfl, bv207⟩ := r206
  refine g_istore (l' := [(0, .ref w), (1, .ref b), (2, .int a2), (3, .int a3), (4, .int v207)]) rfl rfl ?_
  refine g_aload_n rfl ?_
  refine g_iload_n rfl ?_
  refine g_invvi hI hw0 rfl rfl rfl rfl (s_89 w hw a3 (by omega) H hI hJ) (fun v210 H208 r209 => ?_)
  obtain ⟨rfl, bv210⟩ := r209
  refine g_istore (l' := [(0, .ref w), (1, .ref b), (2, .int a2), (3, .int a3), (4, .int v207), (5, .int v210)]) rfl rfl ?_
  refine g_aload_n rfl ?_
  refine g_gfr hI hw0 rfl ?_
  refine g_iload_n rfl ?_
  refine g_iaload hI hw1 rfl (by omega) (fun v211 ev211 lv211 uv211 => ?_)
  refine g_aload_n rfl ?_
  refine g_gfr hI hw0 rfl ?_
  refine g_iload_n rfl ?_
  refine g_iaload hI hw1 rfl (by omega) (fun v212 ev212 lv212 uv212 => ?_)
  refine g_iconst (by decide) (fun v213 kv213 => ?_)
  refine g_iadd' (fun v214 _ => ?_)
  refine g_if2_eq (fun c215 => ?_) (fun c215 => ?_)
  · refine g_aload_n rfl ?_
    refine g_gfr hI hw0 rfl ?_
    refine g_iload_n rfl ?_
    refine g_iaload hI hw2 rfl (by omega) (fun v216 ev216 lv216 uv216 => ?_)
    refine g_if_lt (fun c217 => ?_) (fun c217 => ?_)
    · refine g_aload_n rfl ?_
      refine g_iload rfl ?_
      refine g_iconst (by decide) (fun v218 kv218 => ?_)
      refine g_invvi hI hw0 rfl rfl rfl rfl (s_85 w hw v207 (by omega) v218 H hI hJ) (fun v221 H219 r220 => ?_)
      obtain ⟨rfl, bv221⟩ := r220
      refine g_if_ne (fun c222 => ?_) (fun c222 => ?_)
      · refine g_bipush (by decide) (fun v223 kv223 => ?_)
        exact g_iret ⟨_, rfl, rfl⟩
      · refine g_aload_n rfl ?_
        refine g_iload rfl ?_
        refine g_iconst (by decide) (fun v224 kv224 => ?_)
        refine g_invvi hI hw0 rfl rfl rfl rfl (s_85 w hw v210 (by omega) v224 H hI hJ) (fun v227 H225 r226 => ?_)
        obtain ⟨rfl, bv227⟩ := r226
        refine g_if_eq (fun c228 => ?_) (fun c228 => ?_)
        · refine g_aload_n rfl ?_
          refine g_gfr hI hw0 rfl ?_
          refine g_iload_n rfl ?_
          refine g_ialoadk hI hw1 rfl (by omega) ev211 ?_
          refine g_iconst (by decide) (fun v229 kv229 => ?_)
          refine g_if2_ne (fun c230 => ?_) (fun c230 => ?_)
          · refine g_aload_n rfl ?_
            refine g_gfi hI hb0 rfl (fun v231 ev231 lv231 uv231 => ?_)
            refine g_nop ?_
            refine g_istore (l' := [(0, .ref w), (1, .ref b), (2, .int a2), (3, .int a3), (4, .int v207), (5, .int v210), (6, .int v231)]) rfl rfl ?_
            refine g_aload_n rfl ?_
            refine g_gfr hI hw0 rfl ?_
            refine g_iload rfl ?_
            refine g_iaload hI hw3 rfl (by omega) (fun v232 ev232 lv232 uv232 => ?_)
            refine g_aload_n rfl ?_
            refine g_gfr hI hw0 rfl ?_
            refine g_iload rfl ?_
            refine g_iaload hI hw3 rfl (by omega) (fun v233 ev233 lv233 uv233 => ?_)
            refine g_if2_ne (fun c234 => ?_) (fun c234 => ?_)
            · refine g_bipush (by decide) (fun v235 kv235 => ?_)
              refine g_goto ?_
              exact g_iret ⟨_, rfl, rfl⟩
            · refine g_aload_n rfl ?_
              refine g_iload_n rfl ?_
              refine g_invvi hI hw0 rfl rfl rfl rfl (s_103 w hw a3 H hI hJ) (fun v238 H236 r237 => ?_)
              obtain rfl := r237
              refine g_iload rfl ?_
              refine g_if2_lt (fun c239 => ?_) (fun c239 => ?_)
              · refine g_iconst (by decide) (fun v240 kv240 => ?_)
                refine g_nop ?_
                exact g_iret ⟨_, rfl, rfl⟩
              · refine g_nop ?_
                refine g_bipush (by decide) (fun v241 kv241 => ?_)
                refine g_goto ?_
                exact g_iret ⟨_, rfl, rfl⟩
          · refine g_aload_n rfl ?_
            refine g_gfi hI hb0 rfl (fun v242 ev242 lv242 uv242 => ?_)
            refine g_goto ?_
            refine g_istore (l' := [(0, .ref w), (1, .ref b), (2, .int a2), (3, .int a3), (4, .int v207), (5, .int v210), (6, .int v242)]) rfl rfl ?_
            refine g_aload_n rfl ?_
            refine g_gfr hI hw0 rfl ?_
            refine g_iload rfl ?_
            refine g_iaload hI hw3 rfl (by omega) (fun v243 ev243 lv243 uv243 => ?_)
            refine g_aload_n rfl ?_
            refine g_gfr hI hw0 rfl ?_
            refine g_iload rfl ?_
            refine g_iaload hI hw3 rfl (by omega) (fun v244 ev244 lv244 uv244 => ?_)
            refine g_if2_ne (fun c245 => ?_) (fun c245 => ?_)
            · refine g_bipush (by decide) (fun v246 kv246 => ?_)
              refine g_goto ?_
              exact g_iret ⟨_, rfl, rfl⟩
            · refine g_aload_n rfl ?_
              refine g_iload_n rfl ?_
              refine g_invvi hI hw0 rfl rfl rfl rfl (s_103 w hw a3 H hI hJ) (fun v249 H247 r248 => ?_)
              obtain rfl := r248
              refine g_iload rfl ?_
              refine g_if2_lt (fun c250 => ?_) (fun c250 => ?_)
              · refine g_iconst (by decide) (fun v251 kv251 => ?_)
                refine g_nop ?_
                exact g_iret ⟨_, rfl, rfl⟩
              · refine g_nop ?_
                refine g_bipush (by decide) (fun v252 kv252 => ?_)
                refine g_goto ?_
                exact g_iret ⟨_, rfl, rfl⟩
        · refine g_nop ?_
          refine g_bipush (by decide) (fun v253 kv253 => ?_)
          exact g_iret ⟨_, rfl, rfl⟩
    · refine g_iconst (by decide) (fun v254 kv254 => ?_)
      exact g_iret ⟨_, rfl, rfl⟩
  · refine g_iconst (by decide) (fun v255 kv255 => ?_)
    exact g_iret ⟨_, rfl, rfl⟩
set_option maxRecDepth 4000 in
set_option maxHeartbeats 4000000 in
/-- X8.isIn -/
theorem s_90 (w : Nat) (hw : zWo w) (a1 : Int32) (ha1 : 0 ≤ a1.toInt ∧ a1.toInt ≤ 39) (a2 : Int32) (H : mzH) (hI : gI SX H) (hJ : JX H) : gCall 90 [.ref w, .int a1, .int a2] H (gRi (fun v H' => H = H' ∧ (0 ≤ v.toInt ∧ v.toInt ≤ 1))) := by
  obtain ⟨hwr, hw0, hw1, hw2, hw3, hw4, hw5, hw6⟩ := id hw
  refine gG_call [(0, .ref w), (1, .int a1), (2, .int a2)] ⟨rfl, rfl, rfl, trivial⟩ ?_
  show gG 5 zB_90 (mzBlk zB_90 0) [(0, .ref w), (1, .int a1), (2, .int a2)] [] H 0 0 _
  refine g_aload_n rfl ?_
  refine g_gfr hI hw0 rfl ?_
  refine g_iload_n rfl ?_
  refine g_iaload hI hw2 rfl (by omega) (fun v85 ev85 lv85 uv85 => ?_)
  refine g_istore_n (l' := [(0, .ref w), (1, .int a1), (2, .int a2), (3, .int v85)]) rfl rfl ?_
  refine g_iconst (by decide) (fun v86 kv86 => ?_)
  refine g_istore (l' := [(0, .ref w), (1, .int a1), (2, .int a2), (3, .int v85), (4, .int v86)]) rfl rfl ?_
  refine g_nop ?_
  have L89 : ∀ (N : Nat) (v87 : Int32) (v88 : Int32), (-5 ≤ v87.toInt ∧ v87.toInt ≤ 39) → (0 ≤ v88.toInt ∧ v88.toInt ≤ 2) → (2 - v88.toInt).toNat < N → gG 5 zB_90 (mzBlk zB_90 1) [(0, .ref w), (1, .int a1), (2, .int a2), (3, .int v87), (4, .int v88)] [] H 0 0 (gRi (fun v H' => H = H' ∧ (0 ≤ v.toInt ∧ v.toInt ≤ 1))) := by
    intro N
    induction N with
    | zero => intro v87 v88 bv87 bv88 hmL89; exact absurd hmL89 (Nat.not_lt_zero _)
    | succ N ihL89 =>
      intro v87 v88 bv87 bv88 hmL89
      refine g_iload rfl ?_
      refine g_iconst (by decide) (fun v90 kv90 => ?_)
      refine g_if2_ge (fun c91 => ?_) (fun c91 => ?_)
      · refine g_iconst (by decide) (fun v92 kv92 => ?_)
        exact g_zret (by omega) ⟨_, rfl, rfl, (by omega)⟩
      · refine g_iload_n rfl ?_
        refine g_if_lt (fun c93 => ?_) (fun c93 => ?_)
        · refine g_iconst (by decide) (fun v94 kv94 => ?_)
          exact g_zret (by omega) ⟨_, rfl, rfl, (by omega)⟩
        · refine g_iload_n rfl ?_
          refine g_iload_n rfl ?_
          refine g_if2_ne (fun c95 => ?_) (fun c95 => ?_)
          · refine g_aload_n rfl ?_
            refine g_gfr hI hw0 rfl ?_
            refine g_iload_n rfl ?_
            refine g_iaload hI hw2 rfl (by omega) (fun v96 ev96 lv96 uv96 => ?_)
            refine g_istore_n (l' := [(0, .ref w), (1, .int a1), (2, .int a2), (3, .int v96), (4, .int v88)]) rfl rfl ?_
            refine g_iinc (l' := (fun v97 => [(0, .ref w), (1, .int a1), (2, .int a2), (3, .int v96), (4, .int v97)])) rfl rfl (by decide) (by omega) (fun _ => rfl) (fun v97 ev97 => ?_)
            refine g_goto ?_
            exact ihL89 v96 v97 (by omega) (by omega) (by omega)
          · refine g_iconst (by decide) (fun v98 kv98 => ?_)
            exact g_zret (by omega) ⟨_, rfl, rfl, (by omega)⟩
  exact L89 _ v85 v86 (by omega) (by omega) (Nat.lt_succ_self _)
set_option maxRecDepth 4000 in
set_option maxHeartbeats 4000000 in
/-- X8.isQuarantinedWithin -/
theorem s_97 (w : Nat) (hw : zWo w) (a1 : Int32) (H : mzH) (hI : gI SX H) (hJ : JX H) : gCall 97 [.ref w, .int a1] H (gRi (fun v H' => H = H' ∧ (0 ≤ v.toInt ∧ v.toInt ≤ 1))) := by
  obtain ⟨hwr, hw0, hw1, hw2, hw3, hw4, hw5, hw6⟩ := id hw
  refine gG_call [(0, .ref w), (1, .int a1)] ⟨rfl, rfl, trivial⟩ ?_
  show gG 3 zB_97 (mzBlk zB_97 0) [(0, .ref w), (1, .int a1)] [] H 0 0 _
  refine g_iconst (by decide) (fun v225 kv225 => ?_)
  refine g_istore_n (l' := [(0, .ref w), (1, .int a1), (2, .int v225)]) rfl rfl ?_
  refine g_nop ?_
  have L227 : ∀ (N : Nat) (v226 : Int32), (0 ≤ v226.toInt ∧ v226.toInt ≤ 40) → (40 - v226.toInt).toNat < N → gG 3 zB_97 (mzBlk zB_97 1) [(0, .ref w), (1, .int a1), (2, .int v226)] [] H 0 0 (gRi (fun v H' => H = H' ∧ (0 ≤ v.toInt ∧ v.toInt ≤ 1))) := by
    intro N
    induction N with
    | zero => intro v226 bv226 hmL227; exact absurd hmL227 (Nat.not_lt_zero _)
    | succ N ihL227 =>
      intro v226 bv226 hmL227
      refine g_iload_n rfl ?_
      refine g_bipush (by decide) (fun v228 kv228 => ?_)
      refine g_if2_ge (fun c229 => ?_) (fun c229 => ?_)
      · refine g_iconst (by decide) (fun v230 kv230 => ?_)
        exact g_zret (by omega) ⟨_, rfl, rfl, (by omega)⟩
      · refine g_aload_n rfl ?_
        refine g_iload_n rfl ?_
        refine g_bipush (by decide) (fun v231 kv231 => ?_)
        refine g_invvi hI hw0 rfl rfl rfl rfl (s_85 w hw v226 (by omega) v231 H hI hJ) (fun v234 H232 r233 => ?_)
        obtain ⟨rfl, bv234⟩ := r233
        refine g_if_eq (fun c235 => ?_) (fun c235 => ?_)
        · refine g_iinc (l' := (fun v236 => [(0, .ref w), (1, .int a1), (2, .int v236)])) rfl rfl (by decide) (by omega) (fun _ => rfl) (fun v236 ev236 => ?_)
          refine g_goto ?_
          exact ihL227 v236 (by omega) (by omega)
        · refine g_iload_n rfl ?_
          refine g_iload_n rfl ?_
          refine g_if2_eq (fun c237 => ?_) (fun c237 => ?_)
          · refine g_iconst (by decide) (fun v238 kv238 => ?_)
            exact g_zret (by omega) ⟨_, rfl, rfl, (by omega)⟩
          · refine g_aload_n rfl ?_
            refine g_iload_n rfl ?_
            refine g_iload_n rfl ?_
            refine g_invvi hI hw0 rfl rfl rfl rfl (s_90 w hw v226 (by omega) a1 H hI hJ) (fun v241 H239 r240 => ?_)
            obtain ⟨rfl, bv241⟩ := r240
            refine g_if_eq (fun c242 => ?_) (fun c242 => ?_)
            · refine g_iinc (l' := (fun v243 => [(0, .ref w), (1, .int a1), (2, .int v243)])) rfl rfl (by decide) (by omega) (fun _ => rfl) (fun v243 ev243 => ?_)
              refine g_goto ?_
              exact ihL227 v243 (by omega) (by omega)
            · refine g_nop ?_
              refine g_iconst (by decide) (fun v244 kv244 => ?_)
              exact g_zret (by omega) ⟨_, rfl, rfl, (by omega)⟩
  exact L227 _ v225 (by omega) (Nat.lt_succ_self _)
set_option maxRecDepth 4000 in
set_option maxHeartbeats 4000000 in
/-- X1.way -/
theorem s_17 (b : Nat) (hb : zBo b) (a1 : Int32) (a2 : Int32) (H : mzH) (hI : gI SX H) (hJ : JX H) : gCall 17 [.ref b, .int a1, .int a2] H (gRi (fun v H' => H = H')) := by
  obtain ⟨hbr, hb0, hb1, hb2, hb3, hb4, hb5, hb6, hb7⟩ := id hb
  refine gG_call [(0, .ref b), (1, .int a1), (2, .int a2)] ⟨rfl, rfl, rfl, trivial⟩ ?_
  show gG 4 zB_17 (mzBlk zB_17 0) [(0, .ref b), (1, .int a1), (2, .int a2)] [] H 0 0 _
  refine g_iload_n rfl ?_
  refine g_if_lt (fun c97 => ?_) (fun c97 => ?_)
  · refine g_iconst (by decide) (fun v98 kv98 => ?_)
    refine g_nop ?_
    refine g_istore_n (l' := [(0, .ref b), (1, .int a1), (2, .int a2), (3, .int v98)]) rfl rfl ?_
    refine g_iload_n rfl ?_
    refine g_if_eq (fun c99 => ?_) (fun c99 => ?_)
    · refine g_bipush (by decide) (fun v100 kv100 => ?_)
      refine g_nop ?_
      exact g_iret ⟨_, rfl, rfl⟩
    · exfalso; omega
  · refine g_iload_n rfl ?_
    refine g_aload_n rfl ?_
    refine g_gfi hI hb0 rfl (fun v101 ev101 lv101 uv101 => ?_)
    refine g_if2_ge (fun c102 => ?_) (fun c102 => ?_)
    · refine g_iconst (by decide) (fun v103 kv103 => ?_)
      refine g_nop ?_
      refine g_istore_n (l' := [(0, .ref b), (1, .int a1), (2, .int a2), (3, .int v103)]) rfl rfl ?_
      refine g_iload_n rfl ?_
      refine g_if_eq (fun c104 => ?_) (fun c104 => ?_)
      · refine g_bipush (by decide) (fun v105 kv105 => ?_)
        refine g_nop ?_
        exact g_iret ⟨_, rfl, rfl⟩
      · exfalso; omega
    · refine g_iload_n rfl ?_
      refine g_if_lt (fun c106 => ?_) (fun c106 => ?_)
      · refine g_iconst (by decide) (fun v107 kv107 => ?_)
        refine g_nop ?_
        refine g_istore_n (l' := [(0, .ref b), (1, .int a1), (2, .int a2), (3, .int v107)]) rfl rfl ?_
        refine g_iload_n rfl ?_
        refine g_if_eq (fun c108 => ?_) (fun c108 => ?_)
        · refine g_bipush (by decide) (fun v109 kv109 => ?_)
          refine g_nop ?_
          exact g_iret ⟨_, rfl, rfl⟩
        · exfalso; omega
      · refine g_iload_n rfl ?_
        refine g_aload_n rfl ?_
        refine g_gfi hI hb0 rfl (fun v110 ev110 lv110 uv110 => ?_)
        refine g_if2_ge (fun c111 => ?_) (fun c111 => ?_)
        · refine g_iconst (by decide) (fun v112 kv112 => ?_)
          refine g_nop ?_
          refine g_istore_n (l' := [(0, .ref b), (1, .int a1), (2, .int a2), (3, .int v112)]) rfl rfl ?_
          refine g_iload_n rfl ?_
          refine g_if_eq (fun c113 => ?_) (fun c113 => ?_)
          · refine g_bipush (by decide) (fun v114 kv114 => ?_)
            refine g_nop ?_
            exact g_iret ⟨_, rfl, rfl⟩
          · exfalso; omega
        · refine g_iconst (by decide) (fun v115 kv115 => ?_)
          refine g_goto ?_
          refine g_istore_n (l' := [(0, .ref b), (1, .int a1), (2, .int a2), (3, .int v115)]) rfl rfl ?_
          refine g_iload_n rfl ?_
          refine g_if_eq (fun c116 => ?_) (fun c116 => ?_)
          · exfalso; omega
          · refine g_aload_n rfl ?_
            refine g_gfr hI hb0 rfl ?_
            refine g_iload_n rfl ?_
            refine g_bipush (by decide) (fun v117 kv117 => ?_)
            refine g_imulk (n := 8) kv117 (by omega) (fun v118 ev118 => ?_)
            refine g_iload_n rfl ?_
            refine g_iadd (by omega) (fun v119 ev119 => ?_)
            refine g_iaload hI hb2 rfl (by omega) (fun v120 ev120 lv120 uv120 => ?_)
            refine g_goto ?_
            exact g_iret ⟨_, rfl, rfl⟩
set_option maxRecDepth 4000 in
set_option maxHeartbeats 4000000 in
/-- X8.isTooSoon -/
theorem s_96 (w : Nat) (hw : zWo w) (b : Nat) (hb : zBo b) (a2 : Int32) (ha2 : 0 ≤ a2.toInt ∧ a2.toInt ≤ 39) (a3 : Int32) (a4 : Int32) (H : mzH) (hI : gI SX H) (hJ : JX H) : gCall 96 [.ref w, .ref b, .int a2, .int a3, .int a4] H (gRi (fun v H' => H = H' ∧ (0 ≤ v.toInt ∧ v.toInt ≤ 1))) := by
  obtain ⟨hwr, hw0, hw1, hw2, hw3, hw4, hw5, hw6⟩ := id hw
  obtain ⟨hbr, hb0, hb1, hb2, hb3, hb4, hb5, hb6, hb7⟩ := id hb
  refine gG_call [(0, .ref w), (1, .ref b), (2, .int a2), (3, .int a3), (4, .int a4)] ⟨rfl, rfl, rfl, rfl, rfl, trivial⟩ ?_
  show gG 6 zB_96 (mzBlk zB_96 0) [(0, .ref w), (1, .ref b), (2, .int a2), (3, .int a3), (4, .int a4)] [] H 0 0 _
  refine g_aload_n rfl ?_
  refine g_gfr hI hw0 rfl ?_
  refine g_iload_n rfl ?_
  refine g_iaload hI hw3 rfl (by omega) (fun v57 ev57 lv57 uv57 => ?_)
  refine g_iload_n rfl ?_
  refine g_if2_ne (fun c58 => ?_) (fun c58 => ?_)
  · refine g_aload_n rfl ?_
    refine g_aload_n rfl ?_
    refine g_gfr hI hw0 rfl ?_
    refine g_iload_n rfl ?_
    refine g_ialoadk hI hw3 rfl (by omega) ev57 ?_
    refine g_iload_n rfl ?_
    refine g_invvi hI hb0 rfl rfl rfl rfl (s_17 b hb v57 a3 H hI hJ) (fun v61 H59 r60 => ?_)
    obtain rfl := r60
    refine g_istore (l' := [(0, .ref w), (1, .ref b), (2, .int a2), (3, .int a3), (4, .int a4), (5, .int v61)]) rfl rfl ?_
    refine g_iload rfl ?_
    refine g_bipush (by decide) (fun v62 kv62 => ?_)
    refine g_if2_eq (fun c63 => ?_) (fun c63 => ?_)
    · refine g_iconst (by decide) (fun v64 kv64 => ?_)
      refine g_goto ?_
      exact g_zret (by omega) ⟨_, rfl, rfl, (by omega)⟩
    · refine g_iload rfl ?_
      refine g_aload_n rfl ?_
      refine g_gfr hI hw0 rfl ?_
      refine g_iload_n rfl ?_
      refine g_iaload hI hw4 rfl (by omega) (fun v65 ev65 lv65 uv65 => ?_)
      refine g_isub' (fun v66 _ => ?_)
      refine g_iload rfl ?_
      refine g_if2_ge (fun c67 => ?_) (fun c67 => ?_)
      · refine g_iconst (by decide) (fun v68 kv68 => ?_)
        refine g_nop ?_
        exact g_zret (by omega) ⟨_, rfl, rfl, (by omega)⟩
      · refine g_nop ?_
        refine g_iconst (by decide) (fun v69 kv69 => ?_)
        refine g_goto ?_
        exact g_zret (by omega) ⟨_, rfl, rfl, (by omega)⟩
  · refine g_iconst (by decide) (fun v70 kv70 => ?_)
    exact g_zret (by omega) ⟨_, rfl, rfl, (by omega)⟩
set_option maxRecDepth 4000 in
set_option maxHeartbeats 4000000 in
/-- X8.objection -/
theorem s_94 (w : Nat) (hw : zWo w) (b : Nat) (hb : zBo b) (a2 : Int32) (ha2 : 0 ≤ a2.toInt ∧ a2.toInt ≤ 59) (a3 : Int32) (H : mzH) (hI : gI SX H) (hJ : JX H) : gCall 94 [.ref w, .ref b, .int a2, .int a3] H (gRi (fun v H' => H = H')) := by
  obtain ⟨hwr, hw0, hw1, hw2, hw3, hw4, hw5, hw6⟩ := id hw
  obtain ⟨hbr, hb0, hb1, hb2, hb3, hb4, hb5, hb6, hb7⟩ := id hb
  refine gG_call [(0, .ref w), (1, .ref b), (2, .int a2), (3, .int a3)] ⟨rfl, rfl, rfl, rfl, trivial⟩ ?_
  show gG 10 zB_94 (mzBlk zB_94 0) [(0, .ref w), (1, .ref b), (2, .int a2), (3, .int a3)] [] H 0 0 _
  refine g_aload_n rfl ?_
  refine g_gfr hI hb0 rfl ?_
  refine g_iload_n rfl ?_
  refine g_iaload hI hb4 rfl (by omega) (fun v657 ev657 lv657 uv657 => ?_)
  refine g_istore (l' := [(0, .ref w), (1, .ref b), (2, .int a2), (3, .int a3), (4, .int v657)]) rfl rfl ?_
  refine g_aload_n rfl ?_
  refine g_gfr hI hb0 rfl ?_
  refine g_iload_n rfl ?_
  refine g_iaload hI hb5 rfl (by omega) (fun v658 ev658 lv658 uv658 => ?_)
  refine g_istore (l' := [(0, .ref w), (1, .ref b), (2, .int a2), (3, .int a3), (4, .int v657), (5, .int v658)]) rfl rfl ?_
  refine g_iload rfl ?_
  refine g_if_ne (fun c659 => ?_) (fun c659 => ?_)
  · refine g_iload rfl ?_
    refine g_iconst (by decide) (fun v660 kv660 => ?_)
    refine g_if2_ne (fun c661 => ?_) (fun c661 => ?_)
    · refine g_iload rfl ?_
      refine g_nop ?_
      refine g_istore (l' := [(0, .ref w), (1, .ref b), (2, .int a2), (3, .int a3), (4, .int v657), (5, .int v658), (6, .int v658)]) rfl rfl ?_
      refine g_aload_n rfl ?_
      refine g_iload rfl ?_
      refine g_invvi hI hw0 rfl rfl rfl rfl (s_88 w hw v658 (by omega) H hI hJ) (fun v664 H662 r663 => ?_)
      obtain ⟨rfl, bv664⟩ := r663
      refine g_if_eq (fun c665 => ?_) (fun c665 => ?_)
      · refine g_iconst (by decide) (fun v666 kv666 => ?_)
        exact g_iret ⟨_, rfl, rfl⟩
      · refine g_aload_n rfl ?_
        refine g_iload rfl ?_
        refine g_invvi hI hw0 rfl rfl rfl rfl (s_88 w hw v658 (by omega) H hI hJ) (fun v669 H667 r668 => ?_)
        obtain ⟨rfl, bv669⟩ := r668
        refine g_if_ne (fun c670 => ?_) (fun c670 => ?_)
        · refine g_aload_n rfl ?_
          refine g_iload rfl ?_
          refine g_iconst (by decide) (fun v671 kv671 => ?_)
          refine g_invvi hI hw0 rfl rfl rfl rfl (s_85 w hw v658 (by omega) v671 H hI hJ) (fun v674 H672 r673 => ?_)
          obtain ⟨rfl, bv674⟩ := r673
          refine g_if_ne (fun c675 => ?_) (fun c675 => ?_)
          · refine g_iconst (by decide) (fun v676 kv676 => ?_)
            exact g_iret ⟨_, rfl, rfl⟩
          · refine g_aload_n rfl ?_
            refine g_iload rfl ?_
            refine g_iconst (by decide) (fun v677 kv677 => ?_)
            refine g_invvi hI hw0 rfl rfl rfl rfl (s_85 w hw v658 (by omega) v677 H hI hJ) (fun v680 H678 r679 => ?_)
            obtain ⟨rfl, bv680⟩ := r679
            refine g_if_eq (fun c681 => ?_) (fun c681 => ?_)
            · refine g_aload_n rfl ?_
              refine g_iload rfl ?_
              refine g_invvi hI hw0 rfl rfl rfl rfl (s_89 w hw v658 (by omega) H hI hJ) (fun v684 H682 r683 => ?_)
              obtain ⟨rfl, bv684⟩ := r683
              refine g_istore (l' := [(0, .ref w), (1, .ref b), (2, .int a2), (3, .int a3), (4, .int v657), (5, .int v658), (6, .int v658), (7, .int v684)]) rfl rfl ?_
              refine g_aload_n rfl ?_
              refine g_iload rfl ?_
              refine g_iconst (by decide) (fun v685 kv685 => ?_)
              refine g_invvi hI hw0 rfl rfl rfl rfl (s_85 w hw v684 (by omega) v685 H hI hJ) (fun v688 H686 r687 => ?_)
              obtain ⟨rfl, bv688⟩ := r687
              refine g_istore (l' := [(0, .ref w), (1, .ref b), (2, .int a2), (3, .int a3), (4, .int v657), (5, .int v658), (6, .int v658), (7, .int v684), (8, .int v688)]) rfl rfl ?_
              refine g_iload rfl ?_
              refine g_sw (by decide) (fun c689 => ?_) ⟨fun c689 => ?_, fun c689 => ?_, fun c689 => ?_, fun c689 => ?_, fun c689 => ?_, fun c689 => ?_, fun c689 => ?_, fun c689 => ?_, fun c689 => ?_, fun c689 => ?_, trivial⟩
              · refine g_iconst (by decide) (fun v690 kv690 => ?_)
                exact g_iret ⟨_, rfl, rfl⟩
              · refine g_aload_n rfl ?_
                refine g_aload_n rfl ?_
                refine g_iload rfl ?_
                refine g_iload rfl ?_
                refine g_invvi hI hw0 rfl rfl rfl rfl (s_95 w hw b hb v658 (by omega) v658 (by omega) H hI hJ) (fun v693 H691 r692 => ?_)
                obtain rfl := r692
                refine g_istore (l' := [(0, .ref w), (1, .ref b), (2, .int a2), (3, .int a3), (4, .int v657), (5, .int v658), (6, .int v658), (7, .int v684), (8, .int v688), (9, .int v693)]) rfl rfl ?_
                refine g_iload rfl ?_
                refine g_if_ne (fun c694 => ?_) (fun c694 => ?_)
                · refine g_iload rfl ?_
                  refine g_nop ?_
                  exact g_iret ⟨_, rfl, rfl⟩
                · refine g_aload_n rfl ?_
                  refine g_iload rfl ?_
                  refine g_invvi hI hw0 rfl rfl rfl rfl (s_97 w hw v658 H hI hJ) (fun v697 H695 r696 => ?_)
                  obtain ⟨rfl, bv697⟩ := r696
                  refine g_if_eq (fun c698 => ?_) (fun c698 => ?_)
                  · refine g_iload rfl ?_
                    refine g_nop ?_
                    exact g_iret ⟨_, rfl, rfl⟩
                  · refine g_bipush (by decide) (fun v699 kv699 => ?_)
                    refine g_goto ?_
                    exact g_iret ⟨_, rfl, rfl⟩
              · refine g_aload_n rfl ?_
                refine g_gfr hI hw0 rfl ?_
                refine g_iload rfl ?_
                refine g_iaload hI hw2 rfl (by omega) (fun v700 ev700 lv700 uv700 => ?_)
                refine g_if_ge (fun c701 => ?_) (fun c701 => ?_)
                · refine g_iload rfl ?_
                  refine g_if_eq (fun c702 => ?_) (fun c702 => ?_)
                  · refine g_iconst (by decide) (fun v703 kv703 => ?_)
                    refine g_nop ?_
                    exact g_iret ⟨_, rfl, rfl⟩
                  · refine g_bipush (by decide) (fun v704 kv704 => ?_)
                    refine g_goto ?_
                    exact g_iret ⟨_, rfl, rfl⟩
                · refine g_iconst (by decide) (fun v705 kv705 => ?_)
                  refine g_goto ?_
                  exact g_iret ⟨_, rfl, rfl⟩
              · refine g_iload rfl ?_
                refine g_if_eq (fun c706 => ?_) (fun c706 => ?_)
                · refine g_aload_n rfl ?_
                  refine g_iload rfl ?_
                  refine g_iconst (by decide) (fun v707 kv707 => ?_)
                  refine g_invvi hI hw0 rfl rfl rfl rfl (s_85 w hw v658 (by omega) v707 H hI hJ) (fun v710 H708 r709 => ?_)
                  obtain ⟨rfl, bv710⟩ := r709
                  refine g_if_ne (fun c711 => ?_) (fun c711 => ?_)
                  · refine g_bipush (by decide) (fun v712 kv712 => ?_)
                    refine g_goto ?_
                    exact g_iret ⟨_, rfl, rfl⟩
                  · refine g_aload_n rfl ?_
                    refine g_gfr hI hw0 rfl ?_
                    refine g_iload rfl ?_
                    refine g_iaload hI hw1 rfl (by omega) (fun v713 ev713 lv713 uv713 => ?_)
                    refine g_if_ne (fun c714 => ?_) (fun c714 => ?_)
                    · refine g_iconst (by decide) (fun v715 kv715 => ?_)
                      refine g_nop ?_
                      exact g_iret ⟨_, rfl, rfl⟩
                    · refine g_nop ?_
                      refine g_bipush (by decide) (fun v716 kv716 => ?_)
                      refine g_goto ?_
                      exact g_iret ⟨_, rfl, rfl⟩
                · refine g_bipush (by decide) (fun v717 kv717 => ?_)
                  refine g_goto ?_
                  exact g_iret ⟨_, rfl, rfl⟩
              · refine g_iload rfl ?_
                refine g_if_eq (fun c718 => ?_) (fun c718 => ?_)
                · refine g_aload_n rfl ?_
                  refine g_iload rfl ?_
                  refine g_iconst (by decide) (fun v719 kv719 => ?_)
                  refine g_invvi hI hw0 rfl rfl rfl rfl (s_85 w hw v658 (by omega) v719 H hI hJ) (fun v722 H720 r721 => ?_)
                  obtain ⟨rfl, bv722⟩ := r721
                  refine g_if_eq (fun c723 => ?_) (fun c723 => ?_)
                  · refine g_bipush (by decide) (fun v724 kv724 => ?_)
                    refine g_nop ?_
                    exact g_iret ⟨_, rfl, rfl⟩
                  · refine g_iconst (by decide) (fun v725 kv725 => ?_)
                    refine g_goto ?_
                    exact g_iret ⟨_, rfl, rfl⟩
                · refine g_bipush (by decide) (fun v726 kv726 => ?_)
                  refine g_goto ?_
                  exact g_iret ⟨_, rfl, rfl⟩
              · refine g_iload rfl ?_
                refine g_if_eq (fun c727 => ?_) (fun c727 => ?_)
                · refine g_aload_n rfl ?_
                  refine g_gfr hI hw0 rfl ?_
                  refine g_iload rfl ?_
                  refine g_iaload hI hw2 rfl (by omega) (fun v728 ev728 lv728 uv728 => ?_)
                  refine g_if_lt (fun c729 => ?_) (fun c729 => ?_)
                  · refine g_aload_n rfl ?_
                    refine g_aload_n rfl ?_
                    refine g_iload rfl ?_
                    refine g_aload_n rfl ?_
                    refine g_gfr hI hb0 rfl ?_
                    refine g_iload_n rfl ?_
                    refine g_iaload hI hb6 rfl (by omega) (fun v730 ev730 lv730 uv730 => ?_)
                    have jv730 : v657.toInt = 1 → 0 ≤ v730.toInt := by rw [ev657, ev730]; exact JX_use hJ hbr (by omega)
                    refine g_iload_n rfl ?_
                    refine g_invvi hI hw0 rfl rfl rfl rfl (s_96 w hw b hb v684 (by omega) v730 a3 H hI hJ) (fun v733 H731 r732 => ?_)
                    obtain ⟨rfl, bv733⟩ := r732
                    refine g_if_eq (fun c734 => ?_) (fun c734 => ?_)
                    · refine g_iconst (by decide) (fun v735 kv735 => ?_)
                      refine g_nop ?_
                      exact g_iret ⟨_, rfl, rfl⟩
                    · refine g_bipush (by decide) (fun v736 kv736 => ?_)
                      refine g_goto ?_
                      exact g_iret ⟨_, rfl, rfl⟩
                  · refine g_bipush (by decide) (fun v737 kv737 => ?_)
                    refine g_goto ?_
                    exact g_iret ⟨_, rfl, rfl⟩
                · refine g_bipush (by decide) (fun v738 kv738 => ?_)
                  refine g_goto ?_
                  exact g_iret ⟨_, rfl, rfl⟩
              · refine g_iload rfl ?_
                refine g_if_eq (fun c739 => ?_) (fun c739 => ?_)
                · refine g_aload_n rfl ?_
                  refine g_aload_n rfl ?_
                  refine g_iload rfl ?_
                  refine g_aload_n rfl ?_
                  refine g_gfr hI hb0 rfl ?_
                  refine g_iload_n rfl ?_
                  refine g_iaload hI hb6 rfl (by omega) (fun v740 ev740 lv740 uv740 => ?_)
                  have jv740 : v657.toInt = 1 → 0 ≤ v740.toInt := by rw [ev657, ev740]; exact JX_use hJ hbr (by omega)
                  refine g_iload_n rfl ?_
                  refine g_invvi hI hw0 rfl rfl rfl rfl (s_96 w hw b hb v684 (by omega) v740 a3 H hI hJ) (fun v743 H741 r742 => ?_)
                  obtain ⟨rfl, bv743⟩ := r742
                  refine g_if_eq (fun c744 => ?_) (fun c744 => ?_)
                  · refine g_iconst (by decide) (fun v745 kv745 => ?_)
                    refine g_nop ?_
                    exact g_iret ⟨_, rfl, rfl⟩
                  · refine g_bipush (by decide) (fun v746 kv746 => ?_)
                    refine g_goto ?_
                    exact g_iret ⟨_, rfl, rfl⟩
                · refine g_bipush (by decide) (fun v747 kv747 => ?_)
                  refine g_goto ?_
                  exact g_iret ⟨_, rfl, rfl⟩
              · refine g_iload rfl ?_
                refine g_if_eq (fun c748 => ?_) (fun c748 => ?_)
                · refine g_aload_n rfl ?_
                  refine g_gfr hI hw0 rfl ?_
                  refine g_iload rfl ?_
                  refine g_iaload hI hw2 rfl (by omega) (fun v749 ev749 lv749 uv749 => ?_)
                  refine g_if_lt (fun c750 => ?_) (fun c750 => ?_)
                  · refine g_aload_n rfl ?_
                    refine g_iload rfl ?_
                    refine g_invvi hI hw0 rfl rfl rfl rfl (s_97 w hw v658 H hI hJ) (fun v753 H751 r752 => ?_)
                    obtain ⟨rfl, bv753⟩ := r752
                    refine g_if_eq (fun c754 => ?_) (fun c754 => ?_)
                    · refine g_iconst (by decide) (fun v755 kv755 => ?_)
                      refine g_nop ?_
                      exact g_iret ⟨_, rfl, rfl⟩
                    · refine g_bipush (by decide) (fun v756 kv756 => ?_)
                      refine g_goto ?_
                      exact g_iret ⟨_, rfl, rfl⟩
                  · refine g_bipush (by decide) (fun v757 kv757 => ?_)
                    refine g_goto ?_
                    exact g_iret ⟨_, rfl, rfl⟩
                · refine g_bipush (by decide) (fun v758 kv758 => ?_)
                  refine g_goto ?_
                  exact g_iret ⟨_, rfl, rfl⟩
              · refine g_aload_n rfl ?_
                refine g_gfr hI hw0 rfl ?_
                refine g_iload rfl ?_
                refine g_iaload hI hw2 rfl (by omega) (fun v759 ev759 lv759 uv759 => ?_)
                refine g_if_ge (fun c760 => ?_) (fun c760 => ?_)
                · refine g_bipush (by decide) (fun v761 kv761 => ?_)
                  refine g_goto ?_
                  exact g_iret ⟨_, rfl, rfl⟩
                · refine g_iload rfl ?_
                  refine g_if_ne (fun c762 => ?_) (fun c762 => ?_)
                  · refine g_iconst (by decide) (fun v763 kv763 => ?_)
                    refine g_nop ?_
                    exact g_iret ⟨_, rfl, rfl⟩
                  · refine g_nop ?_
                    refine g_bipush (by decide) (fun v764 kv764 => ?_)
                    refine g_goto ?_
                    exact g_iret ⟨_, rfl, rfl⟩
              · refine g_iconst (by decide) (fun v765 kv765 => ?_)
                exact g_iret ⟨_, rfl, rfl⟩
              · refine g_aload_n rfl ?_
                refine g_iload rfl ?_
                refine g_bipush (by decide) (fun v766 kv766 => ?_)
                refine g_invvi hI hw0 rfl rfl rfl rfl (s_85 w hw v658 (by omega) v766 H hI hJ) (fun v769 H767 r768 => ?_)
                obtain ⟨rfl, bv769⟩ := r768
                refine g_if_eq (fun c770 => ?_) (fun c770 => ?_)
                · refine g_bipush (by decide) (fun v771 kv771 => ?_)
                  refine g_nop ?_
                  exact g_iret ⟨_, rfl, rfl⟩
                · refine g_iconst (by decide) (fun v772 kv772 => ?_)
                  refine g_goto ?_
                  exact g_iret ⟨_, rfl, rfl⟩
            · refine g_nop ?_
              refine g_iconst (by decide) (fun v773 kv773 => ?_)
              exact g_iret ⟨_, rfl, rfl⟩
        · refine g_nop ?_
          refine g_iconst (by decide) (fun v774 kv774 => ?_)
          exact g_iret ⟨_, rfl, rfl⟩
    · refine g_aload_n rfl ?_
      refine g_gfr hI hb0 rfl ?_
      refine g_iload_n rfl ?_
      refine g_iaload hI hb6 rfl (by omega) (fun v775 ev775 lv775 uv775 => ?_)
      have jv775 : v657.toInt = 1 → 0 ≤ v775.toInt := by rw [ev657, ev775]; exact JX_use hJ hbr (by omega)
      refine g_goto ?_
      refine g_istore (l' := [(0, .ref w), (1, .ref b), (2, .int a2), (3, .int a3), (4, .int v657), (5, .int v658), (6, .int v775)]) rfl rfl ?_
      refine g_aload_n rfl ?_
      refine g_iload rfl ?_
      refine g_invvi hI hw0 rfl rfl rfl rfl (s_88 w hw v658 (by omega) H hI hJ) (fun v778 H776 r777 => ?_)
      obtain ⟨rfl, bv778⟩ := r777
      refine g_if_eq (fun c779 => ?_) (fun c779 => ?_)
      · refine g_iconst (by decide) (fun v780 kv780 => ?_)
        exact g_iret ⟨_, rfl, rfl⟩
      · refine g_aload_n rfl ?_
        refine g_iload rfl ?_
        refine g_invvi hI hw0 rfl rfl rfl rfl (s_88 w hw v775 (by omega) H hI hJ) (fun v783 H781 r782 => ?_)
        obtain ⟨rfl, bv783⟩ := r782
        refine g_if_ne (fun c784 => ?_) (fun c784 => ?_)
        · refine g_aload_n rfl ?_
          refine g_iload rfl ?_
          refine g_iconst (by decide) (fun v785 kv785 => ?_)
          refine g_invvi hI hw0 rfl rfl rfl rfl (s_85 w hw v658 (by omega) v785 H hI hJ) (fun v788 H786 r787 => ?_)
          obtain ⟨rfl, bv788⟩ := r787
          refine g_if_ne (fun c789 => ?_) (fun c789 => ?_)
          · refine g_iconst (by decide) (fun v790 kv790 => ?_)
            exact g_iret ⟨_, rfl, rfl⟩
          · refine g_aload_n rfl ?_
            refine g_iload rfl ?_
            refine g_iconst (by decide) (fun v791 kv791 => ?_)
            refine g_invvi hI hw0 rfl rfl rfl rfl (s_85 w hw v775 (by omega) v791 H hI hJ) (fun v794 H792 r793 => ?_)
            obtain ⟨rfl, bv794⟩ := r793
            refine g_if_eq (fun c795 => ?_) (fun c795 => ?_)
            · refine g_aload_n rfl ?_
              refine g_iload rfl ?_
              refine g_invvi hI hw0 rfl rfl rfl rfl (s_89 w hw v658 (by omega) H hI hJ) (fun v798 H796 r797 => ?_)
              obtain ⟨rfl, bv798⟩ := r797
              refine g_istore (l' := [(0, .ref w), (1, .ref b), (2, .int a2), (3, .int a3), (4, .int v657), (5, .int v658), (6, .int v775), (7, .int v798)]) rfl rfl ?_
              refine g_aload_n rfl ?_
              refine g_iload rfl ?_
              refine g_iconst (by decide) (fun v799 kv799 => ?_)
              refine g_invvi hI hw0 rfl rfl rfl rfl (s_85 w hw v798 (by omega) v799 H hI hJ) (fun v802 H800 r801 => ?_)
              obtain ⟨rfl, bv802⟩ := r801
              refine g_istore (l' := [(0, .ref w), (1, .ref b), (2, .int a2), (3, .int a3), (4, .int v657), (5, .int v658), (6, .int v775), (7, .int v798), (8, .int v802)]) rfl rfl ?_
              refine g_iload rfl ?_
              refine g_sw (by decide) (fun c803 => ?_) ⟨fun c803 => ?_, fun c803 => ?_, fun c803 => ?_, fun c803 => ?_, fun c803 => ?_, fun c803 => ?_, fun c803 => ?_, fun c803 => ?_, fun c803 => ?_, fun c803 => ?_, trivial⟩
              · exfalso; omega
              · refine g_aload_n rfl ?_
                refine g_aload_n rfl ?_
                refine g_iload rfl ?_
                refine g_iload rfl ?_
                refine g_invvi hI hw0 rfl rfl rfl rfl (s_95 w hw b hb v658 (by omega) v775 (by omega) H hI hJ) (fun v806 H804 r805 => ?_)
                obtain rfl := r805
                refine g_istore (l' := [(0, .ref w), (1, .ref b), (2, .int a2), (3, .int a3), (4, .int v657), (5, .int v658), (6, .int v775), (7, .int v798), (8, .int v802), (9, .int v806)]) rfl rfl ?_
                refine g_iload rfl ?_
                refine g_if_ne (fun c807 => ?_) (fun c807 => ?_)
                · refine g_iload rfl ?_
                  refine g_nop ?_
                  exact g_iret ⟨_, rfl, rfl⟩
                · refine g_aload_n rfl ?_
                  refine g_iload rfl ?_
                  refine g_invvi hI hw0 rfl rfl rfl rfl (s_97 w hw v658 H hI hJ) (fun v810 H808 r809 => ?_)
                  obtain ⟨rfl, bv810⟩ := r809
                  refine g_if_eq (fun c811 => ?_) (fun c811 => ?_)
                  · refine g_iload rfl ?_
                    refine g_nop ?_
                    exact g_iret ⟨_, rfl, rfl⟩
                  · refine g_bipush (by decide) (fun v812 kv812 => ?_)
                    refine g_goto ?_
                    exact g_iret ⟨_, rfl, rfl⟩
              · exfalso; omega
              · exfalso; omega
              · exfalso; omega
              · exfalso; omega
              · exfalso; omega
              · exfalso; omega
              · exfalso; omega
              · exfalso; omega
              · exfalso; omega
            · refine g_nop ?_
              refine g_iconst (by decide) (fun v813 kv813 => ?_)
              exact g_iret ⟨_, rfl, rfl⟩
        · refine g_nop ?_
          refine g_iconst (by decide) (fun v814 kv814 => ?_)
          exact g_iret ⟨_, rfl, rfl⟩
  · refine g_aload_n rfl ?_
    refine g_iload rfl ?_
    refine g_invvi hI hw0 rfl rfl rfl rfl (s_88 w hw v658 (by omega) H hI hJ) (fun v817 H815 r816 => ?_)
    obtain ⟨rfl, bv817⟩ := r816
    refine g_if_eq (fun c818 => ?_) (fun c818 => ?_)
    · refine g_iconst (by decide) (fun v819 kv819 => ?_)
      refine g_nop ?_
      exact g_iret ⟨_, rfl, rfl⟩
    · refine g_iconst (by decide) (fun v820 kv820 => ?_)
      refine g_goto ?_
      exact g_iret ⟨_, rfl, rfl⟩
set_option maxRecDepth 4000 in
set_option maxHeartbeats 4000000 in
/-- X8.stand -/
theorem s_99 (w : Nat) (hw : zWo w) (a1 : Int32) (ha1 : 0 ≤ a1.toInt ∧ a1.toInt ≤ 39) (a2 : Int32) (a3 : Int32) (H : mzH) (hI : gI SX H) (hJ : JX H) : gCall 99 [.ref w, .int a1, .int a2, .int a3] H (gRv (fun H' => gI SX H' ∧ JX H' ∧ fZ H' 1 1 = fZ H 1 1)) := by
  obtain ⟨hwr, hw0, hw1, hw2, hw3, hw4, hw5, hw6⟩ := id hw
  obtain ⟨k1_1, ek1_1⟩ : ∃ z, z = fZ H 1 1 := ⟨_, rfl⟩
  have ik1_1 : k1_1.toInt = (fZ H 1 1).toInt := by rw [← ek1_1]
  have bk1_1 : 0 ≤ k1_1.toInt ∧ k1_1.toInt ≤ 900 := by rw [ek1_1]; exact fZ_of hI sx_1 rfl
  refine gG_call [(0, .ref w), (1, .int a1), (2, .int a2), (3, .int a3)] ⟨rfl, rfl, rfl, rfl, trivial⟩ ?_
  show gG 4 zB_99 (mzBlk zB_99 0) [(0, .ref w), (1, .int a1), (2, .int a2), (3, .int a3)] [] H 0 0 _
  refine g_aload_n rfl ?_
  refine g_gfr hI hw0 rfl ?_
  refine g_iload_n rfl ?_
  refine g_bipush (by decide) (fun v29 kv29 => ?_)
  refine g_iastore hI hw2 (by omega) (by omega) (fun H30 eH30 hIH30 => ?_)
  have hJH30 : JX H30 := JX_sA (by omega) eH30 hJ
  have e31 : k1_1 = fZ H30 1 1 := by rw [eH30, fZ_sA]; exact ek1_1
  refine g_aload_n rfl ?_
  refine g_gfr hIH30 hw0 rfl ?_
  refine g_iload_n rfl ?_
  refine g_iload_n rfl ?_
  refine g_iastore hIH30 hw3 (by omega) (gz_any _) (fun H32 eH32 hIH32 => ?_)
  have hJH32 : JX H32 := JX_sA (by omega) eH32 hJH30
  have e33 : k1_1 = fZ H32 1 1 := by rw [eH32, fZ_sA]; exact e31
  refine g_aload_n rfl ?_
  refine g_gfr hIH32 hw0 rfl ?_
  refine g_iload_n rfl ?_
  refine g_iload_n rfl ?_
  refine g_iastore hIH32 hw4 (by omega) (gz_any _) (fun H34 eH34 hIH34 => ?_)
  have hJH34 : JX H34 := JX_sA (by omega) eH34 hJH32
  have e35 : k1_1 = fZ H34 1 1 := by rw [eH34, fZ_sA]; exact e33
  exact g_ret ⟨rfl, hIH34, hJH34, (e35.symm.trans ek1_1)⟩
set_option maxRecDepth 4000 in
set_option maxHeartbeats 4000000 in
/-- X8.mark -/
theorem s_86 (w : Nat) (hw : zWo w) (a1 : Int32) (ha1 : 0 ≤ a1.toInt ∧ a1.toInt ≤ 39) (a2 : Int32) (H : mzH) (hI : gI SX H) (hJ : JX H) : gCall 86 [.ref w, .int a1, .int a2] H (gRv (fun H' => gI SX H' ∧ JX H' ∧ fZ H' 1 1 = fZ H 1 1)) := by
  obtain ⟨hwr, hw0, hw1, hw2, hw3, hw4, hw5, hw6⟩ := id hw
  obtain ⟨k1_1, ek1_1⟩ : ∃ z, z = fZ H 1 1 := ⟨_, rfl⟩
  have ik1_1 : k1_1.toInt = (fZ H 1 1).toInt := by rw [← ek1_1]
  have bk1_1 : 0 ≤ k1_1.toInt ∧ k1_1.toInt ≤ 900 := by rw [ek1_1]; exact fZ_of hI sx_1 rfl
  refine gG_call [(0, .ref w), (1, .int a1), (2, .int a2)] ⟨rfl, rfl, rfl, trivial⟩ ?_
  show gG 3 zB_86 (mzBlk zB_86 0) [(0, .ref w), (1, .int a1), (2, .int a2)] [] H 0 0 _
  refine g_aload_n rfl ?_
  refine g_gfr hI hw0 rfl ?_
  refine g_iload_n rfl ?_
  refine g_dup2 rfl ?_
  refine g_iaload hI hw6 rfl (by omega) (fun v17 ev17 lv17 uv17 => ?_)
  refine g_iload_n rfl ?_
  refine g_ior' (fun v18 _ => ?_)
  refine g_iastore hI hw6 (by omega) (gz_any _) (fun H19 eH19 hIH19 => ?_)
  have hJH19 : JX H19 := JX_sA (by omega) eH19 hJ
  have e20 : k1_1 = fZ H19 1 1 := by rw [eH19, fZ_sA]; exact ek1_1
  exact g_ret ⟨rfl, hIH19, hJH19, (e20.symm.trans ek1_1)⟩
set_option maxRecDepth 4000 in
set_option maxHeartbeats 4000000 in
/-- X8.openAround -/
theorem s_100 (w : Nat) (hw : zWo w) (a1 : Int32) (ha1 : 0 ≤ a1.toInt ∧ a1.toInt ≤ 39) (H : mzH) (hI : gI SX H) (hJ : JX H) : gCall 100 [.ref w, .int a1] H (gRv (fun H' => gI SX H' ∧ JX H' ∧ fZ H' 1 1 = fZ H 1 1)) := by
  obtain ⟨hwr, hw0, hw1, hw2, hw3, hw4, hw5, hw6⟩ := id hw
  obtain ⟨k1_1, ek1_1⟩ : ∃ z, z = fZ H 1 1 := ⟨_, rfl⟩
  have ik1_1 : k1_1.toInt = (fZ H 1 1).toInt := by rw [← ek1_1]
  have bk1_1 : 0 ≤ k1_1.toInt ∧ k1_1.toInt ≤ 900 := by rw [ek1_1]; exact fZ_of hI sx_1 rfl
  refine gG_call [(0, .ref w), (1, .int a1)] ⟨rfl, rfl, trivial⟩ ?_
  show gG 2 zB_100 (mzBlk zB_100 0) [(0, .ref w), (1, .int a1)] [] H 0 0 _
  refine g_aload_n rfl ?_
  refine g_gfr hI hw0 rfl ?_
  refine g_iload_n rfl ?_
  refine g_iaload hI hw2 rfl (by omega) (fun v29 ev29 lv29 uv29 => ?_)
  refine g_if_lt (fun c30 => ?_) (fun c30 => ?_)
  · exact g_ret ⟨rfl, hI, hJ, (ek1_1.symm.trans ek1_1)⟩
  · refine g_aload_n rfl ?_
    refine g_aload_n rfl ?_
    refine g_gfr hI hw0 rfl ?_
    refine g_iload_n rfl ?_
    refine g_ialoadk hI hw2 rfl (by omega) ev29 ?_
    refine g_iconst (by decide) (fun v31 kv31 => ?_)
    refine g_invvv hI hw0 rfl rfl rfl rfl (s_86 w hw v29 (by omega) v31 H hI hJ) (fun H32 r33 => ?_)
    obtain ⟨hIH32, hJH32, w34⟩ := r33
    have e35 : k1_1 = fZ H32 1 1 := ek1_1.trans w34.symm
    refine g_nop ?_
    exact g_ret ⟨rfl, hIH32, hJH32, (e35.symm.trans ek1_1)⟩
set_option maxRecDepth 4000 in
set_option maxHeartbeats 4000000 in
/-- X8.unmark -/
theorem s_87 (w : Nat) (hw : zWo w) (a1 : Int32) (ha1 : 0 ≤ a1.toInt ∧ a1.toInt ≤ 39) (a2 : Int32) (H : mzH) (hI : gI SX H) (hJ : JX H) : gCall 87 [.ref w, .int a1, .int a2] H (gRv (fun H' => gI SX H' ∧ JX H' ∧ fZ H' 1 1 = fZ H 1 1)) := by
  obtain ⟨hwr, hw0, hw1, hw2, hw3, hw4, hw5, hw6⟩ := id hw
  obtain ⟨k1_1, ek1_1⟩ : ∃ z, z = fZ H 1 1 := ⟨_, rfl⟩
  have ik1_1 : k1_1.toInt = (fZ H 1 1).toInt := by rw [← ek1_1]
  have bk1_1 : 0 ≤ k1_1.toInt ∧ k1_1.toInt ≤ 900 := by rw [ek1_1]; exact fZ_of hI sx_1 rfl
  refine gG_call [(0, .ref w), (1, .int a1), (2, .int a2)] ⟨rfl, rfl, rfl, trivial⟩ ?_
  show gG 3 zB_87 (mzBlk zB_87 0) [(0, .ref w), (1, .int a1), (2, .int a2)] [] H 0 0 _
  refine g_aload_n rfl ?_
  refine g_gfr hI hw0 rfl ?_
  refine g_iload_n rfl ?_
  refine g_dup2 rfl ?_
  refine g_iaload hI hw6 rfl (by omega) (fun v25 ev25 lv25 uv25 => ?_)
  refine g_iload_n rfl ?_
  refine g_iconst (by decide) (fun v26 kv26 => ?_)
  refine g_ixor' (fun v27 _ => ?_)
  refine g_iand' (fun v28 _ => ?_)
  refine g_iastore hI hw6 (by omega) (gz_any _) (fun H29 eH29 hIH29 => ?_)
  have hJH29 : JX H29 := JX_sA (by omega) eH29 hJ
  have e30 : k1_1 = fZ H29 1 1 := by rw [eH29, fZ_sA]; exact ek1_1
  exact g_ret ⟨rfl, hIH29, hJH29, (e30.symm.trans ek1_1)⟩
set_option maxRecDepth 4000 in
set_option maxHeartbeats 4000000 in
/-- X8.looseWith -/
theorem s_101 (w : Nat) (hw : zWo w) (a1 : Int32) (ha1 : 0 ≤ a1.toInt ∧ a1.toInt ≤ 39) (H : mzH) (hI : gI SX H) (hJ : JX H) : gCall 101 [.ref w, .int a1] H (gRi (fun v H' => H = H' ∧ (0 ≤ v.toInt ∧ v.toInt ≤ 39))) := by
  obtain ⟨hwr, hw0, hw1, hw2, hw3, hw4, hw5, hw6⟩ := id hw
  refine gG_call [(0, .ref w), (1, .int a1)] ⟨rfl, rfl, trivial⟩ ?_
  show gG 4 zB_101 (mzBlk zB_101 0) [(0, .ref w), (1, .int a1)] [] H 0 0 _
  refine g_iload_n rfl ?_
  refine g_istore_n (l' := [(0, .ref w), (1, .int a1), (2, .int a1)]) rfl rfl ?_
  refine g_iconst (by decide) (fun v83 kv83 => ?_)
  refine g_istore_n (l' := [(0, .ref w), (1, .int a1), (2, .int a1), (3, .int v83)]) rfl rfl ?_
  refine g_nop ?_
  have L86 : ∀ (N : Nat) (v84 : Int32) (v85 : Int32), (0 ≤ v84.toInt ∧ v84.toInt ≤ 39) → (0 ≤ v85.toInt ∧ v85.toInt ≤ 2) → (2 - v85.toInt).toNat < N → gG 4 zB_101 (mzBlk zB_101 1) [(0, .ref w), (1, .int a1), (2, .int v84), (3, .int v85)] [] H 0 0 (gRi (fun v H' => H = H' ∧ (0 ≤ v.toInt ∧ v.toInt ≤ 39))) := by
    intro N
    induction N with
    | zero => intro v84 v85 bv84 bv85 hmL86; exact absurd hmL86 (Nat.not_lt_zero _)
    | succ N ihL86 =>
      intro v84 v85 bv84 bv85 hmL86
      refine g_iload_n rfl ?_
      refine g_iconst (by decide) (fun v87 kv87 => ?_)
      refine g_if2_ge (fun c88 => ?_) (fun c88 => ?_)
      · refine g_iload_n rfl ?_
        exact g_iret ⟨_, rfl, rfl, (by omega)⟩
      · refine g_aload_n rfl ?_
        refine g_gfr hI hw0 rfl ?_
        refine g_iload_n rfl ?_
        refine g_iaload hI hw2 rfl (by omega) (fun v89 ev89 lv89 uv89 => ?_)
        refine g_if_lt (fun c90 => ?_) (fun c90 => ?_)
        · refine g_iload_n rfl ?_
          exact g_iret ⟨_, rfl, rfl, (by omega)⟩
        · refine g_aload_n rfl ?_
          refine g_aload_n rfl ?_
          refine g_gfr hI hw0 rfl ?_
          refine g_iload_n rfl ?_
          refine g_ialoadk hI hw2 rfl (by omega) ev89 ?_
          refine g_iconst (by decide) (fun v91 kv91 => ?_)
          refine g_invvi hI hw0 rfl rfl rfl rfl (s_85 w hw v89 (by omega) v91 H hI hJ) (fun v94 H92 r93 => ?_)
          obtain ⟨rfl, bv94⟩ := r93
          refine g_if_eq (fun c95 => ?_) (fun c95 => ?_)
          · refine g_aload_n rfl ?_
            refine g_gfr hI hw0 rfl ?_
            refine g_iload_n rfl ?_
            refine g_ialoadk hI hw2 rfl (by omega) ev89 ?_
            refine g_istore_n (l' := [(0, .ref w), (1, .int a1), (2, .int v89), (3, .int v85)]) rfl rfl ?_
            refine g_iinc (l' := (fun v96 => [(0, .ref w), (1, .int a1), (2, .int v89), (3, .int v96)])) rfl rfl (by decide) (by omega) (fun _ => rfl) (fun v96 ev96 => ?_)
            refine g_goto ?_
            exact ihL86 v89 v96 (by omega) (by omega) (by omega)
          · refine g_iload_n rfl ?_
            exact g_iret ⟨_, rfl, rfl, (by omega)⟩
  exact L86 _ a1 v83 (by omega) (by omega) (Nat.lt_succ_self _)
set_option maxRecDepth 4000 in
set_option maxHeartbeats 4000000 in
/-- X8.endWithAllIn -/
theorem s_102 (w : Nat) (hw : zWo w) (a1 : Int32) (H : mzH) (hI : gI SX H) (hJ : JX H) : gCall 102 [.ref w, .int a1] H (gRv (fun H' => gI SX H' ∧ JX H' ∧ fZ H' 1 1 = fZ H 1 1)) := by
  obtain ⟨hwr, hw0, hw1, hw2, hw3, hw4, hw5, hw6⟩ := id hw
  obtain ⟨k1_1, ek1_1⟩ : ∃ z, z = fZ H 1 1 := ⟨_, rfl⟩
  have ik1_1 : k1_1.toInt = (fZ H 1 1).toInt := by rw [← ek1_1]
  have bk1_1 : 0 ≤ k1_1.toInt ∧ k1_1.toInt ≤ 900 := by rw [ek1_1]; exact fZ_of hI sx_1 rfl
  refine gG_call [(0, .ref w), (1, .int a1)] ⟨rfl, rfl, trivial⟩ ?_
  show gG 3 zB_102 (mzBlk zB_102 0) [(0, .ref w), (1, .int a1)] [] H 0 0 _
  refine g_iconst (by decide) (fun v453 kv453 => ?_)
  refine g_istore_n (l' := [(0, .ref w), (1, .int a1), (2, .int v453)]) rfl rfl ?_
  refine g_nop ?_
  have L457 : ∀ (N : Nat) (v454 : Int32) (H455 : mzH), gI SX H455 → JX H455 → k1_1 = fZ H455 1 1 → (0 ≤ v454.toInt ∧ v454.toInt ≤ 40) → (40 - v454.toInt).toNat < N → gG 3 zB_102 (mzBlk zB_102 1) [(0, .ref w), (1, .int a1), (2, .int v454)] [] H455 0 0 (gRv (fun H' => gI SX H' ∧ JX H' ∧ fZ H' 1 1 = fZ H 1 1)) := by
    intro N
    induction N with
    | zero => intro v454 H455 hIH455 hJH455 e456 bv454 hmL457; exact absurd hmL457 (Nat.not_lt_zero _)
    | succ N ihL457 =>
      intro v454 H455 hIH455 hJH455 e456 bv454 hmL457
      refine g_iload_n rfl ?_
      refine g_bipush (by decide) (fun v458 kv458 => ?_)
      refine g_if2_ge (fun c459 => ?_) (fun c459 => ?_)
      · refine g_iconst (by decide) (fun v460 kv460 => ?_)
        refine g_istore_n (l' := [(0, .ref w), (1, .int a1), (2, .int v460)]) rfl rfl ?_
        refine g_nop ?_
        have L464 : ∀ (N : Nat) (v461 : Int32) (H462 : mzH), gI SX H462 → JX H462 → k1_1 = fZ H462 1 1 → (0 ≤ v461.toInt ∧ v461.toInt ≤ 40) → (40 - v461.toInt).toNat < N → gG 3 zB_102 (mzBlk zB_102 5) [(0, .ref w), (1, .int a1), (2, .int v461)] [] H462 0 0 (gRv (fun H' => gI SX H' ∧ JX H' ∧ fZ H' 1 1 = fZ H 1 1)) := by
          intro N
          induction N with
          | zero => intro v461 H462 hIH462 hJH462 e463 bv461 hmL464; exact absurd hmL464 (Nat.not_lt_zero _)
          | succ N ihL464 =>
            intro v461 H462 hIH462 hJH462 e463 bv461 hmL464
            refine g_iload_n rfl ?_
            refine g_bipush (by decide) (fun v465 kv465 => ?_)
            refine g_if2_ge (fun c466 => ?_) (fun c466 => ?_)
            · exact g_ret ⟨rfl, hIH462, hJH462, (e463.symm.trans ek1_1)⟩
            · refine g_aload_n rfl ?_
              refine g_iload_n rfl ?_
              refine g_iconst (by decide) (fun v467 kv467 => ?_)
              refine g_invvi hIH462 hw0 rfl rfl rfl rfl (s_85 w hw v461 (by omega) v467 H462 hIH462 hJH462) (fun v470 H468 r469 => ?_)
              obtain ⟨rfl, bv470⟩ := r469
              refine g_if_eq (fun c471 => ?_) (fun c471 => ?_)
              · refine g_iinc (l' := (fun v472 => [(0, .ref w), (1, .int a1), (2, .int v472)])) rfl rfl (by decide) (by omega) (fun _ => rfl) (fun v472 ev472 => ?_)
                refine g_goto ?_
                exact ihL464 v472 H462 hIH462 hJH462 e463 (by omega) (by omega)
              · refine g_aload_n rfl ?_
                refine g_gfr hIH462 hw0 rfl ?_
                refine g_iload_n rfl ?_
                refine g_bipush (by decide) (fun v473 kv473 => ?_)
                refine g_iastore hIH462 hw2 (by omega) (by omega) (fun H474 eH474 hIH474 => ?_)
                have hJH474 : JX H474 := JX_sA (by omega) eH474 hJH462
                have e475 : k1_1 = fZ H474 1 1 := by rw [eH474, fZ_sA]; exact e463
                refine g_aload_n rfl ?_
                refine g_iload_n rfl ?_
                refine g_bipush (by decide) (fun v476 kv476 => ?_)
                refine g_invvv hIH474 hw0 rfl rfl rfl rfl (s_87 w hw v461 (by omega) v476 H474 hIH474 hJH474) (fun H477 r478 => ?_)
                obtain ⟨hIH477, hJH477, w479⟩ := r478
                have e480 : k1_1 = fZ H477 1 1 := e475.trans w479.symm
                refine g_nop ?_
                refine g_iinc (l' := (fun v481 => [(0, .ref w), (1, .int a1), (2, .int v481)])) rfl rfl (by decide) (by omega) (fun _ => rfl) (fun v481 ev481 => ?_)
                refine g_goto ?_
                exact ihL464 v481 H477 hIH477 hJH477 e480 (by omega) (by omega)
        exact L464 _ v460 H455 hIH455 hJH455 e456 (by omega) (Nat.lt_succ_self _)
      · refine g_iload_n rfl ?_
        refine g_iload_n rfl ?_
        refine g_if2_eq (fun c482 => ?_) (fun c482 => ?_)
        · refine g_aload_n rfl ?_
          refine g_iload_n rfl ?_
          refine g_iconst (by decide) (fun v483 kv483 => ?_)
          refine g_invvv hIH455 hw0 rfl rfl rfl rfl (s_86 w hw v454 (by omega) v483 H455 hIH455 hJH455) (fun H484 r485 => ?_)
          obtain ⟨hIH484, hJH484, w486⟩ := r485
          have e487 : k1_1 = fZ H484 1 1 := e456.trans w486.symm
          refine g_nop ?_
          refine g_iinc (l' := (fun v488 => [(0, .ref w), (1, .int a1), (2, .int v488)])) rfl rfl (by decide) (by omega) (fun _ => rfl) (fun v488 ev488 => ?_)
          refine g_goto ?_
          exact ihL457 v488 H484 hIH484 hJH484 e487 (by omega) (by omega)
        · refine g_aload_n rfl ?_
          refine g_iload_n rfl ?_
          refine g_iload_n rfl ?_
          refine g_invvi hIH455 hw0 rfl rfl rfl rfl (s_90 w hw v454 (by omega) a1 H455 hIH455 hJH455) (fun v491 H489 r490 => ?_)
          obtain ⟨rfl, bv491⟩ := r490
          refine g_if_eq (fun c492 => ?_) (fun c492 => ?_)
          · refine g_iinc (l' := (fun v493 => [(0, .ref w), (1, .int a1), (2, .int v493)])) rfl rfl (by decide) (by omega) (fun _ => rfl) (fun v493 ev493 => ?_)
            refine g_goto ?_
            exact ihL457 v493 H455 hIH455 hJH455 e456 (by omega) (by omega)
          · refine g_nop ?_
            refine g_aload_n rfl ?_
            refine g_iload_n rfl ?_
            refine g_iconst (by decide) (fun v494 kv494 => ?_)
            refine g_invvv hIH455 hw0 rfl rfl rfl rfl (s_86 w hw v454 (by omega) v494 H455 hIH455 hJH455) (fun H495 r496 => ?_)
            obtain ⟨hIH495, hJH495, w497⟩ := r496
            have e498 : k1_1 = fZ H495 1 1 := e456.trans w497.symm
            refine g_nop ?_
            refine g_iinc (l' := (fun v499 => [(0, .ref w), (1, .int a1), (2, .int v499)])) rfl rfl (by decide) (by omega) (fun _ => rfl) (fun v499 ev499 => ?_)
            refine g_goto ?_
            exact ihL457 v499 H495 hIH495 hJH495 e498 (by omega) (by omega)
  exact L457 _ v453 H hI hJ ek1_1 (by omega) (Nat.lt_succ_self _)
set_option maxRecDepth 4000 in
set_option maxHeartbeats 4000000 in
/-- X8.carryOut -/
theorem s_98 (w : Nat) (hw : zWo w) (b : Nat) (hb : zBo b) (a2 : Int32) (ha2 : 0 ≤ a2.toInt ∧ a2.toInt ≤ 59) (a3 : Int32) (H : mzH) (hI : gI SX H) (hJ : JX H) : gCall 98 [.ref w, .ref b, .int a2, .int a3] H (gRv (fun H' => gI SX H' ∧ JX H' ∧ fZ H' 1 1 = fZ H 1 1)) := by
  obtain ⟨hwr, hw0, hw1, hw2, hw3, hw4, hw5, hw6⟩ := id hw
  obtain ⟨hbr, hb0, hb1, hb2, hb3, hb4, hb5, hb6, hb7⟩ := id hb
  obtain ⟨k1_1, ek1_1⟩ : ∃ z, z = fZ H 1 1 := ⟨_, rfl⟩
  have ik1_1 : k1_1.toInt = (fZ H 1 1).toInt := by rw [← ek1_1]
  have bk1_1 : 0 ≤ k1_1.toInt ∧ k1_1.toInt ≤ 900 := by rw [ek1_1]; exact fZ_of hI sx_1 rfl
  refine gG_call [(0, .ref w), (1, .ref b), (2, .int a2), (3, .int a3)] ⟨rfl, rfl, rfl, rfl, trivial⟩ ?_
  show gG 7 zB_98 (mzBlk zB_98 0) [(0, .ref w), (1, .ref b), (2, .int a2), (3, .int a3)] [] H 0 0 _
  refine g_aload_n rfl ?_
  refine g_gfr hI hb0 rfl ?_
  refine g_iload_n rfl ?_
  refine g_iaload hI hb5 rfl (by omega) (fun v325 ev325 lv325 uv325 => ?_)
  refine g_istore (l' := [(0, .ref w), (1, .ref b), (2, .int a2), (3, .int a3), (4, .int v325)]) rfl rfl ?_
  refine g_aload_n rfl ?_
  refine g_gfr hI hb0 rfl ?_
  refine g_iload_n rfl ?_
  refine g_iaload hI hb6 rfl (by omega) (fun v326 ev326 lv326 uv326 => ?_)
  refine g_istore (l' := [(0, .ref w), (1, .ref b), (2, .int a2), (3, .int a3), (4, .int v325), (5, .int v326)]) rfl rfl ?_
  refine g_aload_n rfl ?_
  refine g_iload rfl ?_
  refine g_invvi hI hw0 rfl rfl rfl rfl (s_89 w hw v325 (by omega) H hI hJ) (fun v329 H327 r328 => ?_)
  obtain ⟨rfl, bv329⟩ := r328
  refine g_istore (l' := [(0, .ref w), (1, .ref b), (2, .int a2), (3, .int a3), (4, .int v325), (5, .int v326), (6, .int v329)]) rfl rfl ?_
  refine g_aload_n rfl ?_
  refine g_gfr hI hb0 rfl ?_
  refine g_iload_n rfl ?_
  refine g_iaload hI hb4 rfl (by omega) (fun v330 ev330 lv330 uv330 => ?_)
  refine g_sw (by decide) (fun c331 => ?_) ⟨fun c331 => ?_, fun c331 => ?_, fun c331 => ?_, fun c331 => ?_, fun c331 => ?_, fun c331 => ?_, fun c331 => ?_, fun c331 => ?_, fun c331 => ?_, fun c331 => ?_, trivial⟩
  · refine g_aload_n rfl ?_
    refine g_iload rfl ?_
    refine g_bipush (by decide) (fun v332 kv332 => ?_)
    refine g_invvv hI hw0 rfl rfl rfl rfl (s_87 w hw v325 (by omega) v332 H hI hJ) (fun H333 r334 => ?_)
    obtain ⟨hIH333, hJH333, w335⟩ := r334
    have e336 : k1_1 = fZ H333 1 1 := ek1_1.trans w335.symm
    refine g_nop ?_
    exact g_ret ⟨rfl, hIH333, hJH333, (e336.symm.trans ek1_1)⟩
  · refine g_aload_n rfl ?_
    refine g_gfr hI hw0 rfl ?_
    refine g_iload rfl ?_
    refine g_aload_n rfl ?_
    refine g_gfr hI hb0 rfl ?_
    refine g_iload_n rfl ?_
    refine g_iaload hI hb7 rfl (by omega) (fun v337 ev337 lv337 uv337 => ?_)
    refine g_iastore hI hw1 (by omega) (gz_any _) (fun H338 eH338 hIH338 => ?_)
    have hJH338 : JX H338 := JX_sA (by omega) eH338 hJ
    have e339 : k1_1 = fZ H338 1 1 := by rw [eH338, fZ_sA]; exact ek1_1
    refine g_aload_n rfl ?_
    refine g_iload rfl ?_
    refine g_iload rfl ?_
    refine g_iload_n rfl ?_
    refine g_invvv hIH338 hw0 rfl rfl rfl rfl (s_99 w hw v325 (by omega) v326 a3 H338 hIH338 hJH338) (fun H340 r341 => ?_)
    obtain ⟨hIH340, hJH340, w342⟩ := r341
    have e343 : k1_1 = fZ H340 1 1 := e339.trans w342.symm
    refine g_goto ?_
    exact g_ret ⟨rfl, hIH340, hJH340, (e343.symm.trans ek1_1)⟩
  · refine g_aload_n rfl ?_
    refine g_gfr hI hw0 rfl ?_
    refine g_iload rfl ?_
    refine g_iload rfl ?_
    refine g_iastore hI hw2 (by omega) (by omega) (fun H344 eH344 hIH344 => ?_)
    have hJH344 : JX H344 := JX_sA (by omega) eH344 hJ
    have e345 : k1_1 = fZ H344 1 1 := by rw [eH344, fZ_sA]; exact ek1_1
    refine g_goto ?_
    exact g_ret ⟨rfl, hIH344, hJH344, (e345.symm.trans ek1_1)⟩
  · refine g_aload_n rfl ?_
    refine g_iload rfl ?_
    refine g_invvv hI hw0 rfl rfl rfl rfl (s_100 w hw v325 (by omega) H hI hJ) (fun H346 r347 => ?_)
    obtain ⟨hIH346, hJH346, w348⟩ := r347
    have e349 : k1_1 = fZ H346 1 1 := ek1_1.trans w348.symm
    refine g_aload_n rfl ?_
    refine g_iload rfl ?_
    refine g_aload_n rfl ?_
    refine g_gfr hIH346 hw0 rfl ?_
    refine g_iload rfl ?_
    refine g_iaload hIH346 hw3 rfl (by omega) (fun v350 ev350 lv350 uv350 => ?_)
    refine g_iload_n rfl ?_
    refine g_invvv hIH346 hw0 rfl rfl rfl rfl (s_99 w hw v325 (by omega) v350 a3 H346 hIH346 hJH346) (fun H351 r352 => ?_)
    obtain ⟨hIH351, hJH351, w353⟩ := r352
    have e354 : k1_1 = fZ H351 1 1 := e349.trans w353.symm
    refine g_goto ?_
    exact g_ret ⟨rfl, hIH351, hJH351, (e354.symm.trans ek1_1)⟩
  · refine g_aload_n rfl ?_
    refine g_iload rfl ?_
    refine g_iconst (by decide) (fun v355 kv355 => ?_)
    refine g_invvv hI hw0 rfl rfl rfl rfl (s_86 w hw v325 (by omega) v355 H hI hJ) (fun H356 r357 => ?_)
    obtain ⟨hIH356, hJH356, w358⟩ := r357
    have e359 : k1_1 = fZ H356 1 1 := ek1_1.trans w358.symm
    refine g_goto ?_
    exact g_ret ⟨rfl, hIH356, hJH356, (e359.symm.trans ek1_1)⟩
  · refine g_aload_n rfl ?_
    refine g_iload rfl ?_
    refine g_iconst (by decide) (fun v360 kv360 => ?_)
    refine g_invvv hI hw0 rfl rfl rfl rfl (s_87 w hw v325 (by omega) v360 H hI hJ) (fun H361 r362 => ?_)
    obtain ⟨hIH361, hJH361, w363⟩ := r362
    have e364 : k1_1 = fZ H361 1 1 := ek1_1.trans w363.symm
    refine g_goto ?_
    exact g_ret ⟨rfl, hIH361, hJH361, (e364.symm.trans ek1_1)⟩
  · refine g_aload_n rfl ?_
    refine g_iload rfl ?_
    refine g_iload rfl ?_
    refine g_iload_n rfl ?_
    refine g_invvv hI hw0 rfl rfl rfl rfl (s_99 w hw v325 (by omega) v326 a3 H hI hJ) (fun H365 r366 => ?_)
    obtain ⟨hIH365, hJH365, w367⟩ := r366
    have e368 : k1_1 = fZ H365 1 1 := ek1_1.trans w367.symm
    refine g_goto ?_
    exact g_ret ⟨rfl, hIH365, hJH365, (e368.symm.trans ek1_1)⟩
  · refine g_aload_n rfl ?_
    refine g_gfr hI hw0 rfl ?_
    refine g_iload rfl ?_
    refine g_iload_n rfl ?_
    refine g_iastore hI hw5 (by omega) (gz_any _) (fun H369 eH369 hIH369 => ?_)
    have hJH369 : JX H369 := JX_sA (by omega) eH369 hJ
    have e370 : k1_1 = fZ H369 1 1 := by rw [eH369, fZ_sA]; exact ek1_1
    refine g_aload_n rfl ?_
    refine g_aload_n rfl ?_
    refine g_gfr hIH369 hw0 rfl ?_
    refine g_iload rfl ?_
    refine g_iaload hIH369 hw3 rfl (by omega) (fun v371 ev371 lv371 uv371 => ?_)
    refine g_iload rfl ?_
    refine g_if2_ne (fun c372 => ?_) (fun c372 => ?_)
    · refine g_aload_n rfl ?_
      refine g_iload rfl ?_
      refine g_invvi hIH369 hw0 rfl rfl rfl rfl (s_101 w hw v325 (by omega) H369 hIH369 hJH369) (fun v375 H373 r374 => ?_)
      obtain ⟨rfl, bv375⟩ := r374
      refine g_nop ?_
      refine g_iload rfl ?_
      refine g_iload_n rfl ?_
      refine g_invvv hIH369 hw0 rfl rfl rfl rfl (s_99 w hw v375 (by omega) v326 a3 H369 hIH369 hJH369) (fun H376 r377 => ?_)
      obtain ⟨hIH376, hJH376, w378⟩ := r377
      have e379 : k1_1 = fZ H376 1 1 := e370.trans w378.symm
      refine g_goto ?_
      exact g_ret ⟨rfl, hIH376, hJH376, (e379.symm.trans ek1_1)⟩
    · refine g_iload rfl ?_
      refine g_goto ?_
      refine g_iload rfl ?_
      refine g_iload_n rfl ?_
      refine g_invvv hIH369 hw0 rfl rfl rfl rfl (s_99 w hw v329 (by omega) v326 a3 H369 hIH369 hJH369) (fun H380 r381 => ?_)
      obtain ⟨hIH380, hJH380, w382⟩ := r381
      have e383 : k1_1 = fZ H380 1 1 := e370.trans w382.symm
      refine g_goto ?_
      exact g_ret ⟨rfl, hIH380, hJH380, (e383.symm.trans ek1_1)⟩
  · refine g_aload_n rfl ?_
    refine g_iload rfl ?_
    refine g_iconst (by decide) (fun v384 kv384 => ?_)
    refine g_invvv hI hw0 rfl rfl rfl rfl (s_86 w hw v325 (by omega) v384 H hI hJ) (fun H385 r386 => ?_)
    obtain ⟨hIH385, hJH385, w387⟩ := r386
    have e388 : k1_1 = fZ H385 1 1 := ek1_1.trans w387.symm
    refine g_goto ?_
    exact g_ret ⟨rfl, hIH385, hJH385, (e388.symm.trans ek1_1)⟩
  · refine g_aload_n rfl ?_
    refine g_iload rfl ?_
    refine g_iconst (by decide) (fun v389 kv389 => ?_)
    refine g_invvv hI hw0 rfl rfl rfl rfl (s_87 w hw v325 (by omega) v389 H hI hJ) (fun H390 r391 => ?_)
    obtain ⟨hIH390, hJH390, w392⟩ := r391
    have e393 : k1_1 = fZ H390 1 1 := ek1_1.trans w392.symm
    refine g_aload_n rfl ?_
    refine g_iload rfl ?_
    refine g_iload rfl ?_
    refine g_iload_n rfl ?_
    refine g_invvv hIH390 hw0 rfl rfl rfl rfl (s_99 w hw v325 (by omega) v326 a3 H390 hIH390 hJH390) (fun H394 r395 => ?_)
    obtain ⟨hIH394, hJH394, w396⟩ := r395
    have e397 : k1_1 = fZ H394 1 1 := e393.trans w396.symm
    refine g_goto ?_
    exact g_ret ⟨rfl, hIH394, hJH394, (e397.symm.trans ek1_1)⟩
  · refine g_aload_n rfl ?_
    refine g_iload rfl ?_
    refine g_invvv hI hw0 rfl rfl rfl rfl (s_100 w hw v325 (by omega) H hI hJ) (fun H398 r399 => ?_)
    obtain ⟨hIH398, hJH398, w400⟩ := r399
    have e401 : k1_1 = fZ H398 1 1 := ek1_1.trans w400.symm
    refine g_aload_n rfl ?_
    refine g_iload rfl ?_
    refine g_invvv hIH398 hw0 rfl rfl rfl rfl (s_102 w hw v325 H398 hIH398 hJH398) (fun H402 r403 => ?_)
    obtain ⟨hIH402, hJH402, w404⟩ := r403
    have e405 : k1_1 = fZ H402 1 1 := e401.trans w404.symm
    refine g_goto ?_
    exact g_ret ⟨rfl, hIH402, hJH402, (e405.symm.trans ek1_1)⟩
set_option maxRecDepth 4000 in
set_option maxHeartbeats 4000000 in
/-- X8.look -/
theorem s_93 (w : Nat) (hw : zWo w) (b : Nat) (hb : zBo b) (a2 : Int32) (ha2 : 0 ≤ a2.toInt ∧ a2.toInt ≤ 59) (a3 : Int32) (H : mzH) (hI : gI SX H) (hJ : JX H) : gCall 93 [.ref w, .ref b, .int a2, .int a3] H (gRi (fun v H' => gI SX H' ∧ JX H' ∧ fZ H' 1 1 = fZ H 1 1)) := by
  obtain ⟨hwr, hw0, hw1, hw2, hw3, hw4, hw5, hw6⟩ := id hw
  obtain ⟨hbr, hb0, hb1, hb2, hb3, hb4, hb5, hb6, hb7⟩ := id hb
  obtain ⟨k1_1, ek1_1⟩ : ∃ z, z = fZ H 1 1 := ⟨_, rfl⟩
  have ik1_1 : k1_1.toInt = (fZ H 1 1).toInt := by rw [← ek1_1]
  have bk1_1 : 0 ≤ k1_1.toInt ∧ k1_1.toInt ≤ 900 := by rw [ek1_1]; exact fZ_of hI sx_1 rfl
  refine gG_call [(0, .ref w), (1, .ref b), (2, .int a2), (3, .int a3)] ⟨rfl, rfl, rfl, rfl, trivial⟩ ?_
  show gG 7 zB_93 (mzBlk zB_93 0) [(0, .ref w), (1, .ref b), (2, .int a2), (3, .int a3)] [] H 0 0 _
  refine g_aload_n rfl ?_
  refine g_aload_n rfl ?_
  refine g_iload_n rfl ?_
  refine g_iload_n rfl ?_
  refine g_invvi hI hw0 rfl rfl rfl rfl (s_94 w hw b hb a2 (by omega) a3 H hI hJ) (fun v159 H157 r158 => ?_)
  obtain rfl := r158
  refine g_istore (l' := [(0, .ref w), (1, .ref b), (2, .int a2), (3, .int a3), (4, .int v159)]) rfl rfl ?_
  refine g_aload_n rfl ?_
  refine g_gfr hI hb0 rfl ?_
  refine g_iload_n rfl ?_
  refine g_iaload hI hb5 rfl (by omega) (fun v160 ev160 lv160 uv160 => ?_)
  refine g_istore (l' := [(0, .ref w), (1, .ref b), (2, .int a2), (3, .int a3), (4, .int v159), (5, .int v160)]) rfl rfl ?_
  refine g_aload_n rfl ?_
  refine g_gfr hI hb0 rfl ?_
  refine g_iload_n rfl ?_
  refine g_iaload hI hb4 rfl (by omega) (fun v161 ev161 lv161 uv161 => ?_)
  refine g_istore (l' := [(0, .ref w), (1, .ref b), (2, .int a2), (3, .int a3), (4, .int v159), (5, .int v160), (6, .int v161)]) rfl rfl ?_
  refine g_iload rfl ?_
  refine g_if_ne (fun c162 => ?_) (fun c162 => ?_)
  · refine g_iload rfl ?_
    refine g_if_ne (fun c163 => ?_) (fun c163 => ?_)
    · refine g_iload rfl ?_
      refine g_bipush (by decide) (fun v164 kv164 => ?_)
      refine g_if2_ne (fun c165 => ?_) (fun c165 => ?_)
      · refine g_iload rfl ?_
        exact g_iret ⟨_, rfl, hI, hJ, (ek1_1.symm.trans ek1_1)⟩
      · refine g_iload rfl ?_
        refine g_bipush (by decide) (fun v166 kv166 => ?_)
        refine g_if2_eq (fun c167 => ?_) (fun c167 => ?_)
        · refine g_aload_n rfl ?_
          refine g_iload rfl ?_
          refine g_bipush (by decide) (fun v168 kv168 => ?_)
          refine g_invvv hI hw0 rfl rfl rfl rfl (s_86 w hw v160 (by omega) v168 H hI hJ) (fun H169 r170 => ?_)
          obtain ⟨hIH169, hJH169, w171⟩ := r170
          have e172 : k1_1 = fZ H169 1 1 := ek1_1.trans w171.symm
          refine g_nop ?_
          refine g_iload rfl ?_
          exact g_iret ⟨_, rfl, hIH169, hJH169, (e172.symm.trans ek1_1)⟩
        · refine g_iload rfl ?_
          refine g_bipush (by decide) (fun v173 kv173 => ?_)
          refine g_if2_ne (fun c174 => ?_) (fun c174 => ?_)
          · refine g_iload rfl ?_
            exact g_iret ⟨_, rfl, hI, hJ, (ek1_1.symm.trans ek1_1)⟩
          · refine g_nop ?_
            refine g_aload_n rfl ?_
            refine g_iload rfl ?_
            refine g_bipush (by decide) (fun v175 kv175 => ?_)
            refine g_invvv hI hw0 rfl rfl rfl rfl (s_86 w hw v160 (by omega) v175 H hI hJ) (fun H176 r177 => ?_)
            obtain ⟨hIH176, hJH176, w178⟩ := r177
            have e179 : k1_1 = fZ H176 1 1 := ek1_1.trans w178.symm
            refine g_nop ?_
            refine g_iload rfl ?_
            exact g_iret ⟨_, rfl, hIH176, hJH176, (e179.symm.trans ek1_1)⟩
    · refine g_aload_n rfl ?_
      refine g_iload rfl ?_
      refine g_iconst (by decide) (fun v180 kv180 => ?_)
      refine g_invvi hI hw0 rfl rfl rfl rfl (s_85 w hw v160 (by omega) v180 H hI hJ) (fun v183 H181 r182 => ?_)
      obtain ⟨rfl, bv183⟩ := r182
      refine g_if_ne (fun c184 => ?_) (fun c184 => ?_)
      · refine g_iload rfl ?_
        refine g_bipush (by decide) (fun v185 kv185 => ?_)
        refine g_if2_ne (fun c186 => ?_) (fun c186 => ?_)
        · refine g_iload rfl ?_
          exact g_iret ⟨_, rfl, hI, hJ, (ek1_1.symm.trans ek1_1)⟩
        · exfalso; omega
      · refine g_aload_n rfl ?_
        refine g_iload rfl ?_
        refine g_bipush (by decide) (fun v187 kv187 => ?_)
        refine g_invvv hI hw0 rfl rfl rfl rfl (s_86 w hw v160 (by omega) v187 H hI hJ) (fun H188 r189 => ?_)
        obtain ⟨hIH188, hJH188, w190⟩ := r189
        have e191 : k1_1 = fZ H188 1 1 := ek1_1.trans w190.symm
        refine g_goto ?_
        refine g_iload rfl ?_
        exact g_iret ⟨_, rfl, hIH188, hJH188, (e191.symm.trans ek1_1)⟩
  · refine g_aload_n rfl ?_
    refine g_aload_n rfl ?_
    refine g_iload_n rfl ?_
    refine g_iload_n rfl ?_
    refine g_invvv hI hw0 rfl rfl rfl rfl (s_98 w hw b hb a2 (by omega) a3 H hI hJ) (fun H192 r193 => ?_)
    obtain ⟨hIH192, hJH192, w194⟩ := r193
    have e195 : k1_1 = fZ H192 1 1 := ek1_1.trans w194.symm
    refine g_goto ?_
    refine g_iload rfl ?_
    exact g_iret ⟨_, rfl, hIH192, hJH192, (e195.symm.trans ek1_1)⟩
set_option maxRecDepth 4000 in
set_option maxHeartbeats 4000000 in
/-- X0.refusedBehind -/
theorem s_6 (a1 : Int32) (ha1 : 0 ≤ a1.toInt ∧ a1.toInt ≤ 59) (a2 : Int32) (a3 : Int32) (H : mzH) (hI : gI SX H) (hJ : JX H) : gCall 6 [.ref 54, .int a1, .int a2, .int a3] H (gRi (fun v H' => gI SX H' ∧ JX H' ∧ fZ H' 1 1 = fZ H 1 1)) := by
  obtain ⟨k1_1, ek1_1⟩ : ∃ z, z = fZ H 1 1 := ⟨_, rfl⟩
  have ik1_1 : k1_1.toInt = (fZ H 1 1).toInt := by rw [← ek1_1]
  have bk1_1 : 0 ≤ k1_1.toInt ∧ k1_1.toInt ≤ 900 := by rw [ek1_1]; exact fZ_of hI sx_1 rfl
  refine gG_call [(0, .ref 54), (1, .int a1), (2, .int a2), (3, .int a3)] ⟨rfl, rfl, rfl, rfl, trivial⟩ ?_
  show gG 6 zB_6 (mzBlk zB_6 0) [(0, .ref 54), (1, .int a1), (2, .int a2), (3, .int a3)] [] H 0 0 _
  refine g_iload_n rfl ?_
  refine g_istore (l' := [(0, .ref 54), (1, .int a1), (2, .int a2), (3, .int a3), (4, .int a2)]) rfl rfl ?_
  refine g_iload_n rfl ?_
  refine g_iconst (by decide) (fun v101 kv101 => ?_)
  refine g_iadd (by omega) (fun v102 ev102 => ?_)
  refine g_istore (l' := [(0, .ref 54), (1, .int a1), (2, .int a2), (3, .int a3), (4, .int a2), (5, .int v102)]) rfl rfl ?_
  refine g_nop ?_
  have L107 : ∀ (N : Nat) (v103 : Int32) (v104 : Int32) (H105 : mzH), gI SX H105 → JX H105 → k1_1 = fZ H105 1 1 → (1 ≤ v104.toInt ∧ v104.toInt ≤ 60) → (60 - v104.toInt).toNat < N → gG 6 zB_6 (mzBlk zB_6 1) [(0, .ref 54), (1, .int a1), (2, .int a2), (3, .int a3), (4, .int v103), (5, .int v104)] [] H105 0 0 (gRi (fun v H' => gI SX H' ∧ JX H' ∧ fZ H' 1 1 = fZ H 1 1)) := by
    intro N
    induction N with
    | zero => intro v103 v104 H105 hIH105 hJH105 e106 bv104 hmL107; exact absurd hmL107 (Nat.not_lt_zero _)
    | succ N ihL107 =>
      intro v103 v104 H105 hIH105 hJH105 e106 bv104 hmL107
      refine g_iload rfl ?_
      refine g_aload_n rfl ?_
      refine g_gfr hIH105 sx_54 rfl ?_
      refine g_gfi hIH105 sx_25 rfl (fun v108 ev108 lv108 uv108 => ?_)
      refine g_if2_ge (fun c109 => ?_) (fun c109 => ?_)
      · refine g_iload rfl ?_
        exact g_iret ⟨_, rfl, hIH105, hJH105, (e106.symm.trans ek1_1)⟩
      · refine g_iload rfl ?_
        refine g_iload_n rfl ?_
        refine g_if2_gt (fun c110 => ?_) (fun c110 => ?_)
        · refine g_iload rfl ?_
          exact g_iret ⟨_, rfl, hIH105, hJH105, (e106.symm.trans ek1_1)⟩
        · refine g_iload rfl ?_
          refine g_aload_n rfl ?_
          refine g_gfr hIH105 sx_54 rfl ?_
          refine g_aload_n rfl ?_
          refine g_gfr hIH105 sx_54 rfl ?_
          refine g_aload_n rfl ?_
          refine g_gfr hIH105 sx_54 rfl ?_
          refine g_gfr hIH105 sx_25 rfl ?_
          refine g_iload rfl ?_
          refine g_iaload hIH105 sx_27 rfl (by omega) (fun v111 ev111 lv111 uv111 => ?_)
          refine g_aload_n rfl ?_
          refine g_gfr hIH105 sx_54 rfl ?_
          refine g_iload rfl ?_
          refine g_invvi hIH105 sx_25 rfl rfl rfl rfl (s_27 25 zCo_25 v104 (by omega) H105 hIH105 hJH105) (fun v114 H112 r113 => ?_)
          obtain rfl := r113
          refine g_invvi hIH105 sx_69 rfl rfl rfl rfl (s_93 69 zWo_69 3 zBo_3 v111 (by omega) v114 H105 hIH105 hJH105) (fun v117 H115 r116 => ?_)
          obtain ⟨hIH115, hJH115, w118⟩ := r116
          have e119 : k1_1 = fZ H115 1 1 := e106.trans w118.symm
          refine g_if_eq (fun c120 => ?_) (fun c120 => ?_)
          · refine g_iconst (by decide) (fun v121 kv121 => ?_)
            refine g_nop ?_
            refine g_iadd (by have := gz_any v103; omega) (fun v122 ev122 => ?_)
            refine g_istore (l' := [(0, .ref 54), (1, .int a1), (2, .int a2), (3, .int a3), (4, .int v122), (5, .int v104)]) rfl rfl ?_
            refine g_iinc (l' := (fun v123 => [(0, .ref 54), (1, .int a1), (2, .int a2), (3, .int a3), (4, .int v122), (5, .int v123)])) rfl rfl (by decide) (by omega) (fun _ => rfl) (fun v123 ev123 => ?_)
            refine g_goto ?_
            exact ihL107 v122 v123 H115 hIH115 hJH115 e119 (by omega) (by omega)
          · refine g_iconst (by decide) (fun v124 kv124 => ?_)
            refine g_goto ?_
            refine g_iadd' (fun v125 _ => ?_)
            refine g_istore (l' := [(0, .ref 54), (1, .int a1), (2, .int a2), (3, .int a3), (4, .int v125), (5, .int v104)]) rfl rfl ?_
            refine g_iinc (l' := (fun v126 => [(0, .ref 54), (1, .int a1), (2, .int a2), (3, .int a3), (4, .int v125), (5, .int v126)])) rfl rfl (by decide) (by omega) (fun _ => rfl) (fun v126 ev126 => ?_)
            refine g_goto ?_
            exact ihL107 v125 v126 H115 hIH115 hJH115 e119 (by omega) (by omega)
  exact L107 _ a2 v102 H hI hJ ek1_1 (by omega) (Nat.lt_succ_self _)
set_option maxRecDepth 4000 in
set_option maxHeartbeats 4000000 in
/-- X0.refusalAt -/
theorem s_7 (a1 : Int32) (ha1 : 0 ≤ a1.toInt ∧ a1.toInt ≤ 59) (w : Nat) (hw : zWo w) (H : mzH) (hI : gI SX H) (hJ : JX H) : gCall 7 [.ref 54, .int a1, .ref w] H (gRi (fun v H' => gI SX H' ∧ JX H' ∧ (0 ≤ v.toInt ∧ v.toInt ≤ 1) ∧ fZ H' 1 1 = fZ H 1 1)) := by
  obtain ⟨hwr, hw0, hw1, hw2, hw3, hw4, hw5, hw6⟩ := id hw
  obtain ⟨k1_1, ek1_1⟩ : ∃ z, z = fZ H 1 1 := ⟨_, rfl⟩
  have ik1_1 : k1_1.toInt = (fZ H 1 1).toInt := by rw [← ek1_1]
  have bk1_1 : 0 ≤ k1_1.toInt ∧ k1_1.toInt ≤ 900 := by rw [ek1_1]; exact fZ_of hI sx_1 rfl
  refine gG_call [(0, .ref 54), (1, .int a1), (2, .ref w)] ⟨rfl, rfl, rfl, trivial⟩ ?_
  show gG 3 zB_7 (mzBlk zB_7 0) [(0, .ref 54), (1, .int a1), (2, .ref w)] [] H 0 0 _
  refine g_aload_n rfl ?_
  refine g_aload_n rfl ?_
  refine g_gfr hI sx_54 rfl ?_
  refine g_aload_n rfl ?_
  refine g_gfr hI sx_54 rfl ?_
  refine g_gfr hI sx_25 rfl ?_
  refine g_iload_n rfl ?_
  refine g_iaload hI sx_27 rfl (by omega) (fun v49 ev49 lv49 uv49 => ?_)
  refine g_aload_n rfl ?_
  refine g_gfr hI sx_54 rfl ?_
  refine g_iload_n rfl ?_
  refine g_invvi hI sx_25 rfl rfl rfl rfl (s_27 25 zCo_25 a1 (by omega) H hI hJ) (fun v52 H50 r51 => ?_)
  obtain rfl := r51
  refine g_invvi hI hw0 rfl rfl rfl rfl (s_93 w hw 3 zBo_3 v49 (by omega) v52 H hI hJ) (fun v55 H53 r54 => ?_)
  obtain ⟨hIH53, hJH53, w56⟩ := r54
  have e57 : k1_1 = fZ H53 1 1 := ek1_1.trans w56.symm
  refine g_if_eq (fun c58 => ?_) (fun c58 => ?_)
  · refine g_iconst (by decide) (fun v59 kv59 => ?_)
    refine g_nop ?_
    exact g_iret ⟨_, rfl, hIH53, hJH53, (by omega), (e57.symm.trans ek1_1)⟩
  · refine g_iconst (by decide) (fun v60 kv60 => ?_)
    refine g_goto ?_
    exact g_iret ⟨_, rfl, hIH53, hJH53, (by omega), (e57.symm.trans ek1_1)⟩
set_option maxRecDepth 4000 in
set_option maxHeartbeats 4000000 in
/-- X0.findOne -/
theorem s_2 (H : mzH) (hI : gI SX H) (hJ : JX H) : gCall 2 [.ref 54] H (gRv (fun H' => gI SX H' ∧ JX H' ∧ fZ H' 1 1 = fZ H 1 1)) := by
  obtain ⟨k1_1, ek1_1⟩ : ∃ z, z = fZ H 1 1 := ⟨_, rfl⟩
  have ik1_1 : k1_1.toInt = (fZ H 1 1).toInt := by rw [← ek1_1]
  have bk1_1 : 0 ≤ k1_1.toInt ∧ k1_1.toInt ≤ 900 := by rw [ek1_1]; exact fZ_of hI sx_1 rfl
  refine gG_call [(0, .ref 54)] ⟨rfl, trivial⟩ ?_
  show gG 5 zB_2 (mzBlk zB_2 0) [(0, .ref 54)] [] H 0 0 _
  refine g_aload_n rfl ?_
  refine g_gfi hI sx_54 rfl (fun v1467 ev1467 lv1467 uv1467 => ?_)
  refine g_if_eq (fun c1468 => ?_) (fun c1468 => ?_)
  · refine g_aload_n rfl ?_
    refine g_iconst (by decide) (fun v1469 kv1469 => ?_)
    refine g_pfz hI sx_54 rfl (by omega) (fun H1470 eH1470 hIH1470 => ?_)
    have hJH1470 : JX H1470 := JX_sF eH1470 hJ
    have e1471 : k1_1 = fZ H1470 1 1 := by rw [eH1470, fZ_sF_nc (by omega)]; exact ek1_1
    refine g_aload_n rfl ?_
    refine g_bipush (by decide) (fun v1472 kv1472 => ?_)
    refine g_pfi hIH1470 sx_54 rfl (gz_any _) (fun H1473 eH1473 hIH1473 => ?_)
    have hJH1473 : JX H1473 := JX_sF eH1473 hJH1470
    have e1474 : k1_1 = fZ H1473 1 1 := by rw [eH1473, fZ_sF_nc (by omega)]; exact e1471
    refine g_aload_n rfl ?_
    refine g_gfr hIH1473 sx_54 rfl ?_
    refine g_invvv hIH1473 sx_55 rfl rfl rfl rfl (s_83 55 zWo_55 H1473 hIH1473 hJH1473) (fun H1475 r1476 => ?_)
    obtain ⟨hIH1475, hJH1475, w1477⟩ := r1476
    have e1478 : k1_1 = fZ H1475 1 1 := e1474.trans w1477.symm
    refine g_iconst (by decide) (fun v1479 kv1479 => ?_)
    refine g_istore_n (l' := [(0, .ref 54), (1, .int v1479)]) rfl rfl ?_
    refine g_iconst (by decide) (fun v1480 kv1480 => ?_)
    refine g_istore_n (l' := [(0, .ref 54), (1, .int v1479), (2, .int v1480)]) rfl rfl ?_
    refine g_nop ?_
    have L1485 : ∀ (N : Nat) (v1481 : Int32) (v1482 : Int32) (H1483 : mzH), gI SX H1483 → JX H1483 → k1_1 = fZ H1483 1 1 → (0 ≤ v1482.toInt ∧ v1482.toInt ≤ 60) → (60 - v1482.toInt).toNat < N → gG 5 zB_2 (mzBlk zB_2 2) [(0, .ref 54), (1, .int v1481), (2, .int v1482)] [] H1483 0 0 (gRv (fun H' => gI SX H' ∧ JX H' ∧ fZ H' 1 1 = fZ H 1 1)) := by
      intro N
      induction N with
      | zero => intro v1481 v1482 H1483 hIH1483 hJH1483 e1484 bv1482 hmL1485; exact absurd hmL1485 (Nat.not_lt_zero _)
      | succ N ihL1485 =>
        intro v1481 v1482 H1483 hIH1483 hJH1483 e1484 bv1482 hmL1485
        refine g_iload_n rfl ?_
        refine g_aload_n rfl ?_
        refine g_gfr hIH1483 sx_54 rfl ?_
        refine g_gfi hIH1483 sx_25 rfl (fun v1486 ev1486 lv1486 uv1486 => ?_)
        refine g_if2_ge (fun c1487 => ?_) (fun c1487 => ?_)
        · exact g_ret ⟨rfl, hIH1483, hJH1483, (e1484.symm.trans ek1_1)⟩
        · refine g_aload_n rfl ?_
          refine g_gfr hIH1483 sx_54 rfl ?_
          refine g_aload_n rfl ?_
          refine g_gfr hIH1483 sx_54 rfl ?_
          refine g_invvv hIH1483 sx_69 rfl rfl rfl rfl (s_84 69 zWo_69 55 zWo_55 H1483 hIH1483 hJH1483) (fun H1488 r1489 => ?_)
          obtain ⟨hIH1488, hJH1488, w1490⟩ := r1489
          have e1491 : k1_1 = fZ H1488 1 1 := e1484.trans w1490.symm
          refine g_aload_n rfl ?_
          refine g_gfr hIH1488 sx_54 rfl ?_
          refine g_gfr hIH1488 sx_25 rfl ?_
          refine g_iload_n rfl ?_
          refine g_iaload hIH1488 sx_27 rfl (by omega) (fun v1492 ev1492 lv1492 uv1492 => ?_)
          refine g_istore_n (l' := [(0, .ref 54), (1, .int v1481), (2, .int v1482), (3, .int v1492)]) rfl rfl ?_
          refine g_aload_n rfl ?_
          refine g_iload_n rfl ?_
          refine g_iload_n rfl ?_
          refine g_aload_n rfl ?_
          refine g_gfi hIH1488 sx_54 rfl (fun v1493 ev1493 lv1493 uv1493 => ?_)
          refine g_invvi hIH1488 sx_54 rfl rfl rfl rfl (s_6 v1482 (by omega) v1481 v1493 H1488 hIH1488 hJH1488) (fun v1496 H1494 r1495 => ?_)
          obtain ⟨hIH1494, hJH1494, w1497⟩ := r1495
          have e1498 : k1_1 = fZ H1494 1 1 := e1491.trans w1497.symm
          refine g_istore (l' := [(0, .ref 54), (1, .int v1481), (2, .int v1482), (3, .int v1492), (4, .int v1496)]) rfl rfl ?_
          refine g_iload rfl ?_
          refine g_aload_n rfl ?_
          refine g_gfi hIH1494 sx_54 rfl (fun v1499 ev1499 lv1499 uv1499 => ?_)
          refine g_if2_lt (fun c1500 => ?_) (fun c1500 => ?_)
          · refine g_aload_n rfl ?_
            refine g_iload_n rfl ?_
            refine g_pfi hIH1494 sx_54 rfl (gz_any _) (fun H1501 eH1501 hIH1501 => ?_)
            have hJH1501 : JX H1501 := JX_sF eH1501 hJH1494
            have e1502 : k1_1 = fZ H1501 1 1 := by rw [eH1501, fZ_sF_nc (by omega)]; exact e1498
            refine g_aload_n rfl ?_
            refine g_iload rfl ?_
            refine g_pfi hIH1501 sx_54 rfl (gz_any _) (fun H1503 eH1503 hIH1503 => ?_)
            have hJH1503 : JX H1503 := JX_sF eH1503 hJH1501
            have e1504 : k1_1 = fZ H1503 1 1 := by rw [eH1503, fZ_sF_nc (by omega)]; exact e1502
            refine g_nop ?_
            refine g_iload_n rfl ?_
            refine g_aload_n rfl ?_
            refine g_iload_n rfl ?_
            refine g_aload_n rfl ?_
            refine g_gfr hIH1503 sx_54 rfl ?_
            refine g_invvi hIH1503 sx_54 rfl rfl rfl rfl (s_7 v1482 (by omega) 55 zWo_55 H1503 hIH1503 hJH1503) (fun v1507 H1505 r1506 => ?_)
            obtain ⟨hIH1505, hJH1505, bv1507, w1508⟩ := r1506
            have e1509 : k1_1 = fZ H1505 1 1 := e1504.trans w1508.symm
            refine g_iadd' (fun v1510 _ => ?_)
            refine g_istore_n (l' := [(0, .ref 54), (1, .int v1510), (2, .int v1482), (3, .int v1492), (4, .int v1496)]) rfl rfl ?_
            refine g_iinc (l' := (fun v1511 => [(0, .ref 54), (1, .int v1510), (2, .int v1511), (3, .int v1492), (4, .int v1496)])) rfl rfl (by decide) (by omega) (fun _ => rfl) (fun v1511 ev1511 => ?_)
            refine g_goto ?_
            refine gG_pick [0, 1, 2] (l' := [(0, .ref 54), (1, .int v1510), (2, .int v1511)]) rfl ?_
            exact ihL1485 v1510 v1511 H1505 hIH1505 hJH1505 e1509 (by omega) (by omega)
          · refine g_iload rfl ?_
            refine g_aload_n rfl ?_
            refine g_gfi hIH1494 sx_54 rfl (fun v1512 ev1512 lv1512 uv1512 => ?_)
            refine g_if2_ne (fun c1513 => ?_) (fun c1513 => ?_)
            · refine g_iload_n rfl ?_
              refine g_aload_n rfl ?_
              refine g_iload_n rfl ?_
              refine g_aload_n rfl ?_
              refine g_gfr hIH1494 sx_54 rfl ?_
              refine g_invvi hIH1494 sx_54 rfl rfl rfl rfl (s_7 v1482 (by omega) 55 zWo_55 H1494 hIH1494 hJH1494) (fun v1516 H1514 r1515 => ?_)
              obtain ⟨hIH1514, hJH1514, bv1516, w1517⟩ := r1515
              have e1518 : k1_1 = fZ H1514 1 1 := e1498.trans w1517.symm
              refine g_iadd' (fun v1519 _ => ?_)
              refine g_istore_n (l' := [(0, .ref 54), (1, .int v1519), (2, .int v1482), (3, .int v1492), (4, .int v1496)]) rfl rfl ?_
              refine g_iinc (l' := (fun v1520 => [(0, .ref 54), (1, .int v1519), (2, .int v1520), (3, .int v1492), (4, .int v1496)])) rfl rfl (by decide) (by omega) (fun _ => rfl) (fun v1520 ev1520 => ?_)
              refine g_goto ?_
              refine gG_pick [0, 1, 2] (l' := [(0, .ref 54), (1, .int v1519), (2, .int v1520)]) rfl ?_
              exact ihL1485 v1519 v1520 H1514 hIH1514 hJH1514 e1518 (by omega) (by omega)
            · refine g_iload_n rfl ?_
              refine g_aload_n rfl ?_
              refine g_gfi hIH1494 sx_54 rfl (fun v1521 ev1521 lv1521 uv1521 => ?_)
              refine g_if2_ge (fun c1522 => ?_) (fun c1522 => ?_)
              · refine g_iload_n rfl ?_
                refine g_aload_n rfl ?_
                refine g_iload_n rfl ?_
                refine g_aload_n rfl ?_
                refine g_gfr hIH1494 sx_54 rfl ?_
                refine g_invvi hIH1494 sx_54 rfl rfl rfl rfl (s_7 v1482 (by omega) 55 zWo_55 H1494 hIH1494 hJH1494) (fun v1525 H1523 r1524 => ?_)
                obtain ⟨hIH1523, hJH1523, bv1525, w1526⟩ := r1524
                have e1527 : k1_1 = fZ H1523 1 1 := e1498.trans w1526.symm
                refine g_iadd' (fun v1528 _ => ?_)
                refine g_istore_n (l' := [(0, .ref 54), (1, .int v1528), (2, .int v1482), (3, .int v1492), (4, .int v1496)]) rfl rfl ?_
                refine g_iinc (l' := (fun v1529 => [(0, .ref 54), (1, .int v1528), (2, .int v1529), (3, .int v1492), (4, .int v1496)])) rfl rfl (by decide) (by omega) (fun _ => rfl) (fun v1529 ev1529 => ?_)
                refine g_goto ?_
                refine gG_pick [0, 1, 2] (l' := [(0, .ref 54), (1, .int v1528), (2, .int v1529)]) rfl ?_
                exact ihL1485 v1528 v1529 H1523 hIH1523 hJH1523 e1527 (by omega) (by omega)
              · refine g_nop ?_
                refine g_aload_n rfl ?_
                refine g_iload_n rfl ?_
                refine g_pfi hIH1494 sx_54 rfl (gz_any _) (fun H1530 eH1530 hIH1530 => ?_)
                have hJH1530 : JX H1530 := JX_sF eH1530 hJH1494
                have e1531 : k1_1 = fZ H1530 1 1 := by rw [eH1530, fZ_sF_nc (by omega)]; exact e1498
                refine g_aload_n rfl ?_
                refine g_iload rfl ?_
                refine g_pfi hIH1530 sx_54 rfl (gz_any _) (fun H1532 eH1532 hIH1532 => ?_)
                have hJH1532 : JX H1532 := JX_sF eH1532 hJH1530
                have e1533 : k1_1 = fZ H1532 1 1 := by rw [eH1532, fZ_sF_nc (by omega)]; exact e1531
                refine g_nop ?_
                refine g_iload_n rfl ?_
                refine g_aload_n rfl ?_
                refine g_iload_n rfl ?_
                refine g_aload_n rfl ?_
                refine g_gfr hIH1532 sx_54 rfl ?_
                refine g_invvi hIH1532 sx_54 rfl rfl rfl rfl (s_7 v1482 (by omega) 55 zWo_55 H1532 hIH1532 hJH1532) (fun v1536 H1534 r1535 => ?_)
                obtain ⟨hIH1534, hJH1534, bv1536, w1537⟩ := r1535
                have e1538 : k1_1 = fZ H1534 1 1 := e1533.trans w1537.symm
                refine g_iadd' (fun v1539 _ => ?_)
                refine g_istore_n (l' := [(0, .ref 54), (1, .int v1539), (2, .int v1482), (3, .int v1492), (4, .int v1496)]) rfl rfl ?_
                refine g_iinc (l' := (fun v1540 => [(0, .ref 54), (1, .int v1539), (2, .int v1540), (3, .int v1492), (4, .int v1496)])) rfl rfl (by decide) (by omega) (fun _ => rfl) (fun v1540 ev1540 => ?_)
                refine g_goto ?_
                refine gG_pick [0, 1, 2] (l' := [(0, .ref 54), (1, .int v1539), (2, .int v1540)]) rfl ?_
                exact ihL1485 v1539 v1540 H1534 hIH1534 hJH1534 e1538 (by omega) (by omega)
    exact L1485 _ v1479 v1480 H1475 hIH1475 hJH1475 e1478 (by omega) (Nat.lt_succ_self _)
  · exact g_ret ⟨rfl, hI, hJ, (ek1_1.symm.trans ek1_1)⟩
set_option maxRecDepth 4000 in
set_option maxHeartbeats 4000000 in
/-- X0.propose -/
theorem s_5 (a1 : Int32) (a2 : Int32) (a3 : Int32) (H : mzH) (hI : gI SX H) (hJ : JX H) : gCall 5 [.ref 54, .int a1, .int a2, .int a3] H (gRv (fun H' => gI SX H' ∧ JX H' ∧ fZ H' 1 1 = fZ H 1 1)) := by
  obtain ⟨k1_1, ek1_1⟩ : ∃ z, z = fZ H 1 1 := ⟨_, rfl⟩
  have ik1_1 : k1_1.toInt = (fZ H 1 1).toInt := by rw [← ek1_1]
  have bk1_1 : 0 ≤ k1_1.toInt ∧ k1_1.toInt ≤ 900 := by rw [ek1_1]; exact fZ_of hI sx_1 rfl
  refine gG_call [(0, .ref 54), (1, .int a1), (2, .int a2), (3, .int a3)] ⟨rfl, rfl, rfl, rfl, trivial⟩ ?_
  show gG 5 zB_5 (mzBlk zB_5 0) [(0, .ref 54), (1, .int a1), (2, .int a2), (3, .int a3)] [] H 0 0 _
  refine g_iload_n rfl ?_
  refine g_aload_n rfl ?_
  refine g_gfi hI sx_54 rfl (fun v265 ev265 lv265 uv265 => ?_)
  refine g_if2_lt (fun c266 => ?_) (fun c266 => ?_)
  · refine g_iconst (by decide) (fun v267 kv267 => ?_)
    refine g_goto ?_
    refine g_istore (l' := [(0, .ref 54), (1, .int a1), (2, .int a2), (3, .int a3), (4, .int v267)]) rfl rfl ?_
    refine g_iload_n rfl ?_
    refine g_aload_n rfl ?_
    refine g_gfi hI sx_54 rfl (fun v268 ev268 lv268 uv268 => ?_)
    refine g_if2_lt (fun c269 => ?_) (fun c269 => ?_)
    · refine g_aload_n rfl ?_
      refine g_iload_n rfl ?_
      refine g_pfi hI sx_54 rfl (gz_any _) (fun H270 eH270 hIH270 => ?_)
      have hJH270 : JX H270 := JX_sF eH270 hJ
      have e271 : k1_1 = fZ H270 1 1 := by rw [eH270, fZ_sF_nc (by omega)]; exact ek1_1
      refine g_aload_n rfl ?_
      refine g_iload_n rfl ?_
      refine g_pfi hIH270 sx_54 rfl (gz_any _) (fun H272 eH272 hIH272 => ?_)
      have hJH272 : JX H272 := JX_sF eH272 hJH270
      have e273 : k1_1 = fZ H272 1 1 := by rw [eH272, fZ_sF_nc (by omega)]; exact e271
      refine g_aload_n rfl ?_
      refine g_iload_n rfl ?_
      refine g_pfi hIH272 sx_54 rfl (gz_any _) (fun H274 eH274 hIH274 => ?_)
      have hJH274 : JX H274 := JX_sF eH274 hJH272
      have e275 : k1_1 = fZ H274 1 1 := by rw [eH274, fZ_sF_nc (by omega)]; exact e273
      refine g_nop ?_
      exact g_ret ⟨rfl, hIH274, hJH274, (e275.symm.trans ek1_1)⟩
    · refine g_iload_n rfl ?_
      refine g_aload_n rfl ?_
      refine g_gfi hI sx_54 rfl (fun v276 ev276 lv276 uv276 => ?_)
      refine g_if2_ne (fun c277 => ?_) (fun c277 => ?_)
      · exact g_ret ⟨rfl, hI, hJ, (ek1_1.symm.trans ek1_1)⟩
      · refine g_iload rfl ?_
        refine g_if_eq (fun c278 => ?_) (fun c278 => ?_)
        · exfalso; omega
        · refine g_nop ?_
          refine g_aload_n rfl ?_
          refine g_iload_n rfl ?_
          refine g_pfi hI sx_54 rfl (gz_any _) (fun H279 eH279 hIH279 => ?_)
          have hJH279 : JX H279 := JX_sF eH279 hJ
          have e280 : k1_1 = fZ H279 1 1 := by rw [eH279, fZ_sF_nc (by omega)]; exact ek1_1
          refine g_aload_n rfl ?_
          refine g_iload_n rfl ?_
          refine g_pfi hIH279 sx_54 rfl (gz_any _) (fun H281 eH281 hIH281 => ?_)
          have hJH281 : JX H281 := JX_sF eH281 hJH279
          have e282 : k1_1 = fZ H281 1 1 := by rw [eH281, fZ_sF_nc (by omega)]; exact e280
          refine g_aload_n rfl ?_
          refine g_iload_n rfl ?_
          refine g_pfi hIH281 sx_54 rfl (gz_any _) (fun H283 eH283 hIH283 => ?_)
          have hJH283 : JX H283 := JX_sF eH283 hJH281
          have e284 : k1_1 = fZ H283 1 1 := by rw [eH283, fZ_sF_nc (by omega)]; exact e282
          refine g_nop ?_
          exact g_ret ⟨rfl, hIH283, hJH283, (e284.symm.trans ek1_1)⟩
  · refine g_iload_n rfl ?_
    refine g_aload_n rfl ?_
    refine g_gfi hI sx_54 rfl (fun v285 ev285 lv285 uv285 => ?_)
    refine g_if2_ne (fun c286 => ?_) (fun c286 => ?_)
    · refine g_iconst (by decide) (fun v287 kv287 => ?_)
      refine g_nop ?_
      refine g_istore (l' := [(0, .ref 54), (1, .int a1), (2, .int a2), (3, .int a3), (4, .int v287)]) rfl rfl ?_
      refine g_iload_n rfl ?_
      refine g_aload_n rfl ?_
      refine g_gfi hI sx_54 rfl (fun v288 ev288 lv288 uv288 => ?_)
      refine g_if2_lt (fun c289 => ?_) (fun c289 => ?_)
      · refine g_aload_n rfl ?_
        refine g_iload_n rfl ?_
        refine g_pfi hI sx_54 rfl (gz_any _) (fun H290 eH290 hIH290 => ?_)
        have hJH290 : JX H290 := JX_sF eH290 hJ
        have e291 : k1_1 = fZ H290 1 1 := by rw [eH290, fZ_sF_nc (by omega)]; exact ek1_1
        refine g_aload_n rfl ?_
        refine g_iload_n rfl ?_
        refine g_pfi hIH290 sx_54 rfl (gz_any _) (fun H292 eH292 hIH292 => ?_)
        have hJH292 : JX H292 := JX_sF eH292 hJH290
        have e293 : k1_1 = fZ H292 1 1 := by rw [eH292, fZ_sF_nc (by omega)]; exact e291
        refine g_aload_n rfl ?_
        refine g_iload_n rfl ?_
        refine g_pfi hIH292 sx_54 rfl (gz_any _) (fun H294 eH294 hIH294 => ?_)
        have hJH294 : JX H294 := JX_sF eH294 hJH292
        have e295 : k1_1 = fZ H294 1 1 := by rw [eH294, fZ_sF_nc (by omega)]; exact e293
        refine g_nop ?_
        exact g_ret ⟨rfl, hIH294, hJH294, (e295.symm.trans ek1_1)⟩
      · refine g_iload_n rfl ?_
        refine g_aload_n rfl ?_
        refine g_gfi hI sx_54 rfl (fun v296 ev296 lv296 uv296 => ?_)
        refine g_if2_ne (fun c297 => ?_) (fun c297 => ?_)
        · exact g_ret ⟨rfl, hI, hJ, (ek1_1.symm.trans ek1_1)⟩
        · refine g_iload rfl ?_
          refine g_if_eq (fun c298 => ?_) (fun c298 => ?_)
          · exact g_ret ⟨rfl, hI, hJ, (ek1_1.symm.trans ek1_1)⟩
          · exfalso; omega
    · refine g_iload_n rfl ?_
      refine g_aload_n rfl ?_
      refine g_gfi hI sx_54 rfl (fun v299 ev299 lv299 uv299 => ?_)
      refine g_if2_ge (fun c300 => ?_) (fun c300 => ?_)
      · refine g_iconst (by decide) (fun v301 kv301 => ?_)
        refine g_nop ?_
        refine g_istore (l' := [(0, .ref 54), (1, .int a1), (2, .int a2), (3, .int a3), (4, .int v301)]) rfl rfl ?_
        refine g_iload_n rfl ?_
        refine g_aload_n rfl ?_
        refine g_gfi hI sx_54 rfl (fun v302 ev302 lv302 uv302 => ?_)
        refine g_if2_lt (fun c303 => ?_) (fun c303 => ?_)
        · refine g_aload_n rfl ?_
          refine g_iload_n rfl ?_
          refine g_pfi hI sx_54 rfl (gz_any _) (fun H304 eH304 hIH304 => ?_)
          have hJH304 : JX H304 := JX_sF eH304 hJ
          have e305 : k1_1 = fZ H304 1 1 := by rw [eH304, fZ_sF_nc (by omega)]; exact ek1_1
          refine g_aload_n rfl ?_
          refine g_iload_n rfl ?_
          refine g_pfi hIH304 sx_54 rfl (gz_any _) (fun H306 eH306 hIH306 => ?_)
          have hJH306 : JX H306 := JX_sF eH306 hJH304
          have e307 : k1_1 = fZ H306 1 1 := by rw [eH306, fZ_sF_nc (by omega)]; exact e305
          refine g_aload_n rfl ?_
          refine g_iload_n rfl ?_
          refine g_pfi hIH306 sx_54 rfl (gz_any _) (fun H308 eH308 hIH308 => ?_)
          have hJH308 : JX H308 := JX_sF eH308 hJH306
          have e309 : k1_1 = fZ H308 1 1 := by rw [eH308, fZ_sF_nc (by omega)]; exact e307
          refine g_nop ?_
          exact g_ret ⟨rfl, hIH308, hJH308, (e309.symm.trans ek1_1)⟩
        · refine g_iload_n rfl ?_
          refine g_aload_n rfl ?_
          refine g_gfi hI sx_54 rfl (fun v310 ev310 lv310 uv310 => ?_)
          refine g_if2_ne (fun c311 => ?_) (fun c311 => ?_)
          · exact g_ret ⟨rfl, hI, hJ, (ek1_1.symm.trans ek1_1)⟩
          · refine g_iload rfl ?_
            refine g_if_eq (fun c312 => ?_) (fun c312 => ?_)
            · exact g_ret ⟨rfl, hI, hJ, (ek1_1.symm.trans ek1_1)⟩
            · exfalso; omega
      · refine g_nop ?_
        refine g_iconst (by decide) (fun v313 kv313 => ?_)
        refine g_goto ?_
        refine g_istore (l' := [(0, .ref 54), (1, .int a1), (2, .int a2), (3, .int a3), (4, .int v313)]) rfl rfl ?_
        refine g_iload_n rfl ?_
        refine g_aload_n rfl ?_
        refine g_gfi hI sx_54 rfl (fun v314 ev314 lv314 uv314 => ?_)
        refine g_if2_lt (fun c315 => ?_) (fun c315 => ?_)
        · refine g_aload_n rfl ?_
          refine g_iload_n rfl ?_
          refine g_pfi hI sx_54 rfl (gz_any _) (fun H316 eH316 hIH316 => ?_)
          have hJH316 : JX H316 := JX_sF eH316 hJ
          have e317 : k1_1 = fZ H316 1 1 := by rw [eH316, fZ_sF_nc (by omega)]; exact ek1_1
          refine g_aload_n rfl ?_
          refine g_iload_n rfl ?_
          refine g_pfi hIH316 sx_54 rfl (gz_any _) (fun H318 eH318 hIH318 => ?_)
          have hJH318 : JX H318 := JX_sF eH318 hJH316
          have e319 : k1_1 = fZ H318 1 1 := by rw [eH318, fZ_sF_nc (by omega)]; exact e317
          refine g_aload_n rfl ?_
          refine g_iload_n rfl ?_
          refine g_pfi hIH318 sx_54 rfl (gz_any _) (fun H320 eH320 hIH320 => ?_)
          have hJH320 : JX H320 := JX_sF eH320 hJH318
          have e321 : k1_1 = fZ H320 1 1 := by rw [eH320, fZ_sF_nc (by omega)]; exact e319
          refine g_nop ?_
          exact g_ret ⟨rfl, hIH320, hJH320, (e321.symm.trans ek1_1)⟩
        · refine g_iload_n rfl ?_
          refine g_aload_n rfl ?_
          refine g_gfi hI sx_54 rfl (fun v322 ev322 lv322 uv322 => ?_)
          refine g_if2_ne (fun c323 => ?_) (fun c323 => ?_)
          · exact g_ret ⟨rfl, hI, hJ, (ek1_1.symm.trans ek1_1)⟩
          · refine g_iload rfl ?_
            refine g_if_eq (fun c324 => ?_) (fun c324 => ?_)
            · exfalso; omega
            · refine g_nop ?_
              refine g_aload_n rfl ?_
              refine g_iload_n rfl ?_
              refine g_pfi hI sx_54 rfl (gz_any _) (fun H325 eH325 hIH325 => ?_)
              have hJH325 : JX H325 := JX_sF eH325 hJ
              have e326 : k1_1 = fZ H325 1 1 := by rw [eH325, fZ_sF_nc (by omega)]; exact ek1_1
              refine g_aload_n rfl ?_
              refine g_iload_n rfl ?_
              refine g_pfi hIH325 sx_54 rfl (gz_any _) (fun H327 eH327 hIH327 => ?_)
              have hJH327 : JX H327 := JX_sF eH327 hJH325
              have e328 : k1_1 = fZ H327 1 1 := by rw [eH327, fZ_sF_nc (by omega)]; exact e326
              refine g_aload_n rfl ?_
              refine g_iload_n rfl ?_
              refine g_pfi hIH327 sx_54 rfl (gz_any _) (fun H329 eH329 hIH329 => ?_)
              have hJH329 : JX H329 := JX_sF eH329 hJH327
              have e330 : k1_1 = fZ H329 1 1 := by rw [eH329, fZ_sF_nc (by omega)]; exact e328
              refine g_nop ?_
              exact g_ret ⟨rfl, hIH329, hJH329, (e330.symm.trans ek1_1)⟩
set_option maxRecDepth 4000 in
set_option maxHeartbeats 4000000 in
/-- X0.tryPairsWith -/
theorem s_4 (a1 : Int32) (ha1 : 0 ≤ a1.toInt ∧ a1.toInt ≤ 59) (a2 : Int32) (H : mzH) (hI : gI SX H) (hJ : JX H) : gCall 4 [.ref 54, .int a1, .int a2] H (gRv (fun H' => gI SX H' ∧ JX H' ∧ fZ H' 1 1 = fZ H 1 1)) := by
  obtain ⟨k1_1, ek1_1⟩ : ∃ z, z = fZ H 1 1 := ⟨_, rfl⟩
  have ik1_1 : k1_1.toInt = (fZ H 1 1).toInt := by rw [← ek1_1]
  have bk1_1 : 0 ≤ k1_1.toInt ∧ k1_1.toInt ≤ 900 := by rw [ek1_1]; exact fZ_of hI sx_1 rfl
  refine gG_call [(0, .ref 54), (1, .int a1), (2, .int a2)] ⟨rfl, rfl, rfl, trivial⟩ ?_
  show gG 6 zB_4 (mzBlk zB_4 0) [(0, .ref 54), (1, .int a1), (2, .int a2)] [] H 0 0 _
  refine g_aload_n rfl ?_
  refine g_gfr hI sx_54 rfl ?_
  refine g_aload_n rfl ?_
  refine g_gfr hI sx_54 rfl ?_
  refine g_invvv hI sx_62 rfl rfl rfl rfl (s_84 62 zWo_62 55 zWo_55 H hI hJ) (fun H133 r134 => ?_)
  obtain ⟨hIH133, hJH133, w135⟩ := r134
  have e136 : k1_1 = fZ H133 1 1 := ek1_1.trans w135.symm
  refine g_iload_n rfl ?_
  refine g_istore_n (l' := [(0, .ref 54), (1, .int a1), (2, .int a2), (3, .int a2)]) rfl rfl ?_
  refine g_iload_n rfl ?_
  refine g_iconst (by decide) (fun v137 kv137 => ?_)
  refine g_iadd (by omega) (fun v138 ev138 => ?_)
  refine g_istore (l' := [(0, .ref 54), (1, .int a1), (2, .int a2), (3, .int a2), (4, .int v138)]) rfl rfl ?_
  refine g_nop ?_
  have L143 : ∀ (N : Nat) (v139 : Int32) (v140 : Int32) (H141 : mzH), gI SX H141 → JX H141 → k1_1 = fZ H141 1 1 → (1 ≤ v140.toInt ∧ v140.toInt ≤ 60) → (60 - v140.toInt).toNat < N → gG 6 zB_4 (mzBlk zB_4 1) [(0, .ref 54), (1, .int a1), (2, .int a2), (3, .int v139), (4, .int v140)] [] H141 0 0 (gRv (fun H' => gI SX H' ∧ JX H' ∧ fZ H' 1 1 = fZ H 1 1)) := by
    intro N
    induction N with
    | zero => intro v139 v140 H141 hIH141 hJH141 e142 bv140 hmL143; exact absurd hmL143 (Nat.not_lt_zero _)
    | succ N ihL143 =>
      intro v139 v140 H141 hIH141 hJH141 e142 bv140 hmL143
      refine g_iload rfl ?_
      refine g_aload_n rfl ?_
      refine g_gfr hIH141 sx_54 rfl ?_
      refine g_gfi hIH141 sx_25 rfl (fun v144 ev144 lv144 uv144 => ?_)
      refine g_if2_ge (fun c145 => ?_) (fun c145 => ?_)
      · exact g_ret ⟨rfl, hIH141, hJH141, (e142.symm.trans ek1_1)⟩
      · refine g_aload_n rfl ?_
        refine g_gfr hIH141 sx_54 rfl ?_
        refine g_aload_n rfl ?_
        refine g_gfr hIH141 sx_54 rfl ?_
        refine g_invvv hIH141 sx_69 rfl rfl rfl rfl (s_84 69 zWo_69 62 zWo_62 H141 hIH141 hJH141) (fun H146 r147 => ?_)
        obtain ⟨hIH146, hJH146, w148⟩ := r147
        have e149 : k1_1 = fZ H146 1 1 := e142.trans w148.symm
        refine g_aload_n rfl ?_
        refine g_iload rfl ?_
        refine g_iload_n rfl ?_
        refine g_aload_n rfl ?_
        refine g_gfi hIH146 sx_54 rfl (fun v150 ev150 lv150 uv150 => ?_)
        refine g_invvi hIH146 sx_54 rfl rfl rfl rfl (s_6 v140 (by omega) v139 v150 H146 hIH146 hJH146) (fun v153 H151 r152 => ?_)
        obtain ⟨hIH151, hJH151, w154⟩ := r152
        have e155 : k1_1 = fZ H151 1 1 := e149.trans w154.symm
        refine g_istore (l' := [(0, .ref 54), (1, .int a1), (2, .int a2), (3, .int v139), (4, .int v140), (5, .int v153)]) rfl rfl ?_
        refine g_aload_n rfl ?_
        refine g_aload_n rfl ?_
        refine g_gfr hIH151 sx_54 rfl ?_
        refine g_gfr hIH151 sx_25 rfl ?_
        refine g_iload_n rfl ?_
        refine g_iaload hIH151 sx_27 rfl (by omega) (fun v156 ev156 lv156 uv156 => ?_)
        refine g_aload_n rfl ?_
        refine g_gfr hIH151 sx_54 rfl ?_
        refine g_gfr hIH151 sx_25 rfl ?_
        refine g_iload rfl ?_
        refine g_iaload hIH151 sx_27 rfl (by omega) (fun v157 ev157 lv157 uv157 => ?_)
        refine g_min rfl (fun v158 av158 bv158 dv158 => ?_)
        refine g_aload_n rfl ?_
        refine g_gfr hIH151 sx_54 rfl ?_
        refine g_gfr hIH151 sx_25 rfl ?_
        refine g_iload_n rfl ?_
        refine g_ialoadk hIH151 sx_27 rfl (by omega) ev156 ?_
        refine g_aload_n rfl ?_
        refine g_gfr hIH151 sx_54 rfl ?_
        refine g_gfr hIH151 sx_25 rfl ?_
        refine g_iload rfl ?_
        refine g_ialoadk hIH151 sx_27 rfl (by omega) ev157 ?_
        refine g_max rfl (fun v159 av159 bv159 dv159 => ?_)
        refine g_iload rfl ?_
        refine g_invvv hIH151 sx_54 rfl rfl rfl rfl (s_5 v158 v159 v153 H151 hIH151 hJH151) (fun H160 r161 => ?_)
        obtain ⟨hIH160, hJH160, w162⟩ := r161
        have e163 : k1_1 = fZ H160 1 1 := e155.trans w162.symm
        refine g_iload_n rfl ?_
        refine g_aload_n rfl ?_
        refine g_iload rfl ?_
        refine g_aload_n rfl ?_
        refine g_gfr hIH160 sx_54 rfl ?_
        refine g_invvi hIH160 sx_54 rfl rfl rfl rfl (s_7 v140 (by omega) 62 zWo_62 H160 hIH160 hJH160) (fun v166 H164 r165 => ?_)
        obtain ⟨hIH164, hJH164, bv166, w167⟩ := r165
        have e168 : k1_1 = fZ H164 1 1 := e163.trans w167.symm
        refine g_iadd' (fun v169 _ => ?_)
        refine g_istore_n (l' := [(0, .ref 54), (1, .int a1), (2, .int a2), (3, .int v169), (4, .int v140), (5, .int v153)]) rfl rfl ?_
        refine g_iinc (l' := (fun v170 => [(0, .ref 54), (1, .int a1), (2, .int a2), (3, .int v169), (4, .int v170), (5, .int v153)])) rfl rfl (by decide) (by omega) (fun _ => rfl) (fun v170 ev170 => ?_)
        refine g_goto ?_
        refine gG_pick [0, 1, 2, 3, 4] (l' := [(0, .ref 54), (1, .int a1), (2, .int a2), (3, .int v169), (4, .int v170)]) rfl ?_
        exact ihL143 v169 v170 H164 hIH164 hJH164 e168 (by omega) (by omega)
  exact L143 _ a2 v138 H133 hIH133 hJH133 e136 (by omega) (Nat.lt_succ_self _)
set_option maxRecDepth 4000 in
set_option maxHeartbeats 4000000 in
/-- X0.findTwo -/
theorem s_3 (H : mzH) (hI : gI SX H) (hJ : JX H) : gCall 3 [.ref 54] H (gRv (fun H' => gI SX H' ∧ JX H' ∧ fZ H' 1 1 = fZ H 1 1)) := by
  obtain ⟨k1_1, ek1_1⟩ : ∃ z, z = fZ H 1 1 := ⟨_, rfl⟩
  have ik1_1 : k1_1.toInt = (fZ H 1 1).toInt := by rw [← ek1_1]
  have bk1_1 : 0 ≤ k1_1.toInt ∧ k1_1.toInt ≤ 900 := by rw [ek1_1]; exact fZ_of hI sx_1 rfl
  refine gG_call [(0, .ref 54)] ⟨rfl, trivial⟩ ?_
  show gG 3 zB_3 (mzBlk zB_3 0) [(0, .ref 54)] [] H 0 0 _
  refine g_aload_n rfl ?_
  refine g_gfi hI sx_54 rfl (fun v447 ev447 lv447 uv447 => ?_)
  refine g_if_eq (fun c448 => ?_) (fun c448 => ?_)
  · refine g_aload_n rfl ?_
    refine g_iconst (by decide) (fun v449 kv449 => ?_)
    refine g_pfz hI sx_54 rfl (by omega) (fun H450 eH450 hIH450 => ?_)
    have hJH450 : JX H450 := JX_sF eH450 hJ
    have e451 : k1_1 = fZ H450 1 1 := by rw [eH450, fZ_sF_nc (by omega)]; exact ek1_1
    refine g_aload_n rfl ?_
    refine g_bipush (by decide) (fun v452 kv452 => ?_)
    refine g_pfi hIH450 sx_54 rfl (gz_any _) (fun H453 eH453 hIH453 => ?_)
    have hJH453 : JX H453 := JX_sF eH453 hJH450
    have e454 : k1_1 = fZ H453 1 1 := by rw [eH453, fZ_sF_nc (by omega)]; exact e451
    refine g_aload_n rfl ?_
    refine g_gfr hIH453 sx_54 rfl ?_
    refine g_invvv hIH453 sx_55 rfl rfl rfl rfl (s_83 55 zWo_55 H453 hIH453 hJH453) (fun H455 r456 => ?_)
    obtain ⟨hIH455, hJH455, w457⟩ := r456
    have e458 : k1_1 = fZ H455 1 1 := e454.trans w457.symm
    refine g_iconst (by decide) (fun v459 kv459 => ?_)
    refine g_istore_n (l' := [(0, .ref 54), (1, .int v459)]) rfl rfl ?_
    refine g_iconst (by decide) (fun v460 kv460 => ?_)
    refine g_istore_n (l' := [(0, .ref 54), (1, .int v459), (2, .int v460)]) rfl rfl ?_
    refine g_nop ?_
    have L465 : ∀ (N : Nat) (v461 : Int32) (v462 : Int32) (H463 : mzH), gI SX H463 → JX H463 → k1_1 = fZ H463 1 1 → (0 ≤ v462.toInt ∧ v462.toInt ≤ 60) → (60 - v462.toInt).toNat < N → gG 3 zB_3 (mzBlk zB_3 2) [(0, .ref 54), (1, .int v461), (2, .int v462)] [] H463 0 0 (gRv (fun H' => gI SX H' ∧ JX H' ∧ fZ H' 1 1 = fZ H 1 1)) := by
      intro N
      induction N with
      | zero => intro v461 v462 H463 hIH463 hJH463 e464 bv462 hmL465; exact absurd hmL465 (Nat.not_lt_zero _)
      | succ N ihL465 =>
        intro v461 v462 H463 hIH463 hJH463 e464 bv462 hmL465
        refine g_iload_n rfl ?_
        refine g_aload_n rfl ?_
        refine g_gfr hIH463 sx_54 rfl ?_
        refine g_gfi hIH463 sx_25 rfl (fun v466 ev466 lv466 uv466 => ?_)
        refine g_if2_ge (fun c467 => ?_) (fun c467 => ?_)
        · exact g_ret ⟨rfl, hIH463, hJH463, (e464.symm.trans ek1_1)⟩
        · refine g_aload_n rfl ?_
          refine g_iload_n rfl ?_
          refine g_iload_n rfl ?_
          refine g_invvv hIH463 sx_54 rfl rfl rfl rfl (s_4 v462 (by omega) v461 H463 hIH463 hJH463) (fun H468 r469 => ?_)
          obtain ⟨hIH468, hJH468, w470⟩ := r469
          have e471 : k1_1 = fZ H468 1 1 := e464.trans w470.symm
          refine g_iload_n rfl ?_
          refine g_aload_n rfl ?_
          refine g_iload_n rfl ?_
          refine g_aload_n rfl ?_
          refine g_gfr hIH468 sx_54 rfl ?_
          refine g_invvi hIH468 sx_54 rfl rfl rfl rfl (s_7 v462 (by omega) 55 zWo_55 H468 hIH468 hJH468) (fun v474 H472 r473 => ?_)
          obtain ⟨hIH472, hJH472, bv474, w475⟩ := r473
          have e476 : k1_1 = fZ H472 1 1 := e471.trans w475.symm
          refine g_iadd' (fun v477 _ => ?_)
          refine g_istore_n (l' := [(0, .ref 54), (1, .int v477), (2, .int v462)]) rfl rfl ?_
          refine g_iinc (l' := (fun v478 => [(0, .ref 54), (1, .int v477), (2, .int v478)])) rfl rfl (by decide) (by omega) (fun _ => rfl) (fun v478 ev478 => ?_)
          refine g_goto ?_
          exact ihL465 v477 v478 H472 hIH472 hJH472 e476 (by omega) (by omega)
    exact L465 _ v459 v460 H455 hIH455 hJH455 e458 (by omega) (Nat.lt_succ_self _)
  · exact g_ret ⟨rfl, hI, hJ, (ek1_1.symm.trans ek1_1)⟩
set_option maxRecDepth 4000 in
set_option maxHeartbeats 4000000 in
/-- X1.clear -/
theorem s_9 (b : Nat) (hb : zBo b) (H : mzH) (hI : gI SX H) (hJ : JX H) : gCall 9 [.ref b] H (gRv (fun H' => gI SX H' ∧ JX H' ∧ fZ H' 1 1 = fZ H 1 1)) := by
  obtain ⟨hbr, hb0, hb1, hb2, hb3, hb4, hb5, hb6, hb7⟩ := id hb
  obtain ⟨k1_1, ek1_1⟩ : ∃ z, z = fZ H 1 1 := ⟨_, rfl⟩
  have ik1_1 : k1_1.toInt = (fZ H 1 1).toInt := by rw [← ek1_1]
  have bk1_1 : 0 ≤ k1_1.toInt ∧ k1_1.toInt ≤ 900 := by rw [ek1_1]; exact fZ_of hI sx_1 rfl
  refine gG_call [(0, .ref b)] ⟨rfl, trivial⟩ ?_
  show gG 1 zB_9 (mzBlk zB_9 0) [(0, .ref b)] [] H 0 0 _
  refine g_aload_n rfl ?_
  refine g_iconst (by decide) (fun v93 kv93 => ?_)
  refine g_pfi hI hb0 rfl (by omega) (fun H94 eH94 hIH94 => ?_)
  have hJH94 : JX H94 := JX_sF eH94 hJ
  have e95 : k1_1 = fZ H94 1 1 := by rw [eH94, fZ_sF_nc (by omega)]; exact ek1_1
  refine g_aload_n rfl ?_
  refine g_iconst (by decide) (fun v96 kv96 => ?_)
  refine g_pfi hIH94 hb0 rfl (gz_any _) (fun H97 eH97 hIH97 => ?_)
  have hJH97 : JX H97 := JX_sF eH97 hJH94
  have e98 : k1_1 = fZ H97 1 1 := by rw [eH97, fZ_sF_nc (by omega)]; exact e95
  refine g_aload_n rfl ?_
  refine g_iconst (by decide) (fun v99 kv99 => ?_)
  refine g_pfi hIH97 hb0 rfl (by omega) (fun H100 eH100 hIH100 => ?_)
  have hJH100 : JX H100 := JX_sF eH100 hJH97
  have e101 : k1_1 = fZ H100 1 1 := by rw [eH100, fZ_sF_nc (by omega)]; exact e98
  refine g_aload_n rfl ?_
  refine g_bipush (by decide) (fun v102 kv102 => ?_)
  refine g_pfi hIH100 hb0 rfl (gz_any _) (fun H103 eH103 hIH103 => ?_)
  have hJH103 : JX H103 := JX_sF eH103 hJH100
  have e104 : k1_1 = fZ H103 1 1 := by rw [eH103, fZ_sF_nc (by omega)]; exact e101
  refine g_aload_n rfl ?_
  refine g_bipush (by decide) (fun v105 kv105 => ?_)
  refine g_pfi hIH103 hb0 rfl (gz_any _) (fun H106 eH106 hIH106 => ?_)
  have hJH106 : JX H106 := JX_sF eH106 hJH103
  have e107 : k1_1 = fZ H106 1 1 := by rw [eH106, fZ_sF_nc (by omega)]; exact e104
  refine g_aload_n rfl ?_
  refine g_iconst (by decide) (fun v108 kv108 => ?_)
  refine g_pfz hIH106 hb0 rfl (by omega) (fun H109 eH109 hIH109 => ?_)
  have hJH109 : JX H109 := JX_sF eH109 hJH106
  have e110 : k1_1 = fZ H109 1 1 := by rw [eH109, fZ_sF_nc (by omega)]; exact e107
  refine g_aload_n rfl ?_
  refine g_gfr hIH109 hb0 rfl ?_
  refine g_bipush (by decide) (fun v111 kv111 => ?_)
  refine g_invtv rfl rfl rfl (s_fill (b + 2) hb2 (by decide) v111 (by omega) H109 hIH109) (fun H112 r113 => ?_)
  obtain ⟨hIH112, fH112, mH112, _⟩ := r113
  have hJH112 : JX H112 := JX_of hJH109 (fun k => ⟨mH112 (by omega), mH112 (by omega), mH112 (by omega), mH112 (by omega)⟩)
  have e115 : k1_1 = fZ H112 1 1 := e110.trans (fH112 _ _).symm
  exact g_ret ⟨rfl, hIH112, hJH112, (e115.symm.trans ek1_1)⟩
set_option maxRecDepth 4000 in
set_option maxHeartbeats 4000000 in
/-- X1.become -/
theorem s_10 (b : Nat) (hb : zBo b) (d : Nat) (hd : zBo d) (H : mzH) (hI : gI SX H) (hJ : JX H) : gCall 10 [.ref b, .ref d] H (gRv (fun H' => gI SX H' ∧ JX H' ∧ fZ H' 1 1 = fZ H 1 1)) := by
  obtain ⟨hbr, hb0, hb1, hb2, hb3, hb4, hb5, hb6, hb7⟩ := id hb
  obtain ⟨hdr, hd0, hd1, hd2, hd3, hd4, hd5, hd6, hd7⟩ := id hd
  obtain ⟨k1_1, ek1_1⟩ : ∃ z, z = fZ H 1 1 := ⟨_, rfl⟩
  have ik1_1 : k1_1.toInt = (fZ H 1 1).toInt := by rw [← ek1_1]
  have bk1_1 : 0 ≤ k1_1.toInt ∧ k1_1.toInt ≤ 900 := by rw [ek1_1]; exact fZ_of hI sx_1 rfl
  refine gG_call [(0, .ref b), (1, .ref d)] ⟨rfl, rfl, trivial⟩ ?_
  show gG 2 zB_10 (mzBlk zB_10 0) [(0, .ref b), (1, .ref d)] [] H 0 0 _
  refine g_aload_n rfl ?_
  refine g_gfr hI hd0 rfl ?_
  refine g_iconst (by decide) (fun v213 kv213 => ?_)
  refine g_aload_n rfl ?_
  refine g_gfr hI hb0 rfl ?_
  refine g_iconst (by decide) (fun v214 kv214 => ?_)
  refine g_bipush (by decide) (fun v215 kv215 => ?_)
  refine g_acp hI hb1 hd1 (by decide) (by decide) (by omega) (by omega) (by omega) rfl (fun H216 eH216 hIH216 => ?_)
  have e217 : k1_1 = fZ H216 1 1 := by rw [eH216, fZ_sC hI hb1 hd1]; exact ek1_1
  refine g_aload_n rfl ?_
  refine g_gfr hIH216 hd0 rfl ?_
  refine g_iconst (by decide) (fun v218 kv218 => ?_)
  refine g_aload_n rfl ?_
  refine g_gfr hIH216 hb0 rfl ?_
  refine g_iconst (by decide) (fun v219 kv219 => ?_)
  refine g_bipush (by decide) (fun v220 kv220 => ?_)
  refine g_acp hIH216 hb2 hd2 (by decide) (by decide) (by omega) (by omega) (by omega) rfl (fun H221 eH221 hIH221 => ?_)
  have e222 : k1_1 = fZ H221 1 1 := by rw [eH221, fZ_sC hIH216 hb2 hd2]; exact e217
  refine g_aload_n rfl ?_
  refine g_gfr hIH221 hd0 rfl ?_
  refine g_iconst (by decide) (fun v223 kv223 => ?_)
  refine g_aload_n rfl ?_
  refine g_gfr hIH221 hb0 rfl ?_
  refine g_iconst (by decide) (fun v224 kv224 => ?_)
  refine g_bipush (by decide) (fun v225 kv225 => ?_)
  refine g_acp hIH221 hb3 hd3 (by decide) (by decide) (by omega) (by omega) (by omega) rfl (fun H226 eH226 hIH226 => ?_)
  have e227 : k1_1 = fZ H226 1 1 := by rw [eH226, fZ_sC hIH221 hb3 hd3]; exact e222
  refine g_aload_n rfl ?_
  refine g_gfr hIH226 hd0 rfl ?_
  refine g_iconst (by decide) (fun v228 kv228 => ?_)
  refine g_aload_n rfl ?_
  refine g_gfr hIH226 hb0 rfl ?_
  refine g_iconst (by decide) (fun v229 kv229 => ?_)
  refine g_bipush (by decide) (fun v230 kv230 => ?_)
  refine g_acp hIH226 hb4 hd4 (by decide) (by decide) (by omega) (by omega) (by omega) rfl (fun H231 eH231 hIH231 => ?_)
  have e232 : k1_1 = fZ H231 1 1 := by rw [eH231, fZ_sC hIH226 hb4 hd4]; exact e227
  refine g_aload_n rfl ?_
  refine g_gfr hIH231 hd0 rfl ?_
  refine g_iconst (by decide) (fun v233 kv233 => ?_)
  refine g_aload_n rfl ?_
  refine g_gfr hIH231 hb0 rfl ?_
  refine g_iconst (by decide) (fun v234 kv234 => ?_)
  refine g_bipush (by decide) (fun v235 kv235 => ?_)
  refine g_acp hIH231 hb5 hd5 (by decide) (by decide) (by omega) (by omega) (by omega) rfl (fun H236 eH236 hIH236 => ?_)
  have e237 : k1_1 = fZ H236 1 1 := by rw [eH236, fZ_sC hIH231 hb5 hd5]; exact e232
  refine g_aload_n rfl ?_
  refine g_gfr hIH236 hd0 rfl ?_
  refine g_iconst (by decide) (fun v238 kv238 => ?_)
  refine g_aload_n rfl ?_
  refine g_gfr hIH236 hb0 rfl ?_
  refine g_iconst (by decide) (fun v239 kv239 => ?_)
  refine g_bipush (by decide) (fun v240 kv240 => ?_)
  refine g_acp hIH236 hb6 hd6 (by decide) (by decide) (by omega) (by omega) (by omega) rfl (fun H241 eH241 hIH241 => ?_)
  have e242 : k1_1 = fZ H241 1 1 := by rw [eH241, fZ_sC hIH236 hb6 hd6]; exact e237
  refine g_aload_n rfl ?_
  refine g_gfr hIH241 hd0 rfl ?_
  refine g_iconst (by decide) (fun v243 kv243 => ?_)
  refine g_aload_n rfl ?_
  refine g_gfr hIH241 hb0 rfl ?_
  refine g_iconst (by decide) (fun v244 kv244 => ?_)
  refine g_bipush (by decide) (fun v245 kv245 => ?_)
  refine g_acp hIH241 hb7 hd7 (by decide) (by decide) (by omega) (by omega) (by omega) rfl (fun H246 eH246 hIH246 => ?_)
  have e247 : k1_1 = fZ H246 1 1 := by rw [eH246, fZ_sC hIH241 hb7 hd7]; exact e242
  refine g_aload_n rfl ?_
  refine g_aload_n rfl ?_
  refine g_gfi hIH246 hd0 rfl (fun v248 ev248 lv248 uv248 => ?_)
  refine g_pfi hIH246 hb0 rfl (by omega) (fun H249 eH249 hIH249 => ?_)
  have e250 : k1_1 = fZ H249 1 1 := by rw [eH249, fZ_sF_nc (by omega)]; exact e247
  refine g_aload_n rfl ?_
  refine g_aload_n rfl ?_
  refine g_gfi hIH249 hd0 rfl (fun v251 ev251 lv251 uv251 => ?_)
  refine g_pfi hIH249 hb0 rfl (gz_any _) (fun H252 eH252 hIH252 => ?_)
  have e253 : k1_1 = fZ H252 1 1 := by rw [eH252, fZ_sF_nc (by omega)]; exact e250
  refine g_aload_n rfl ?_
  refine g_aload_n rfl ?_
  refine g_gfi hIH252 hd0 rfl (fun v254 ev254 lv254 uv254 => ?_)
  refine g_pfi hIH252 hb0 rfl (by omega) (fun H255 eH255 hIH255 => ?_)
  have e256 : k1_1 = fZ H255 1 1 := by rw [eH255, fZ_sF_nc (by omega)]; exact e253
  refine g_aload_n rfl ?_
  refine g_aload_n rfl ?_
  refine g_gfi hIH255 hd0 rfl (fun v257 ev257 lv257 uv257 => ?_)
  refine g_pfi hIH255 hb0 rfl (gz_any _) (fun H258 eH258 hIH258 => ?_)
  have e259 : k1_1 = fZ H258 1 1 := by rw [eH258, fZ_sF_nc (by omega)]; exact e256
  refine g_aload_n rfl ?_
  refine g_aload_n rfl ?_
  refine g_gfi hIH258 hd0 rfl (fun v260 ev260 lv260 uv260 => ?_)
  refine g_pfi hIH258 hb0 rfl (gz_any _) (fun H261 eH261 hIH261 => ?_)
  have e262 : k1_1 = fZ H261 1 1 := by rw [eH261, fZ_sF_nc (by omega)]; exact e259
  refine g_aload_n rfl ?_
  refine g_aload_n rfl ?_
  refine g_gfi hIH261 hd0 rfl (fun v263 ev263 lv263 uv263 => ?_)
  refine g_pfz hIH261 hb0 rfl (by omega) (fun H264 eH264 hIH264 => ?_)
  have e265 : k1_1 = fZ H264 1 1 := by rw [eH264, fZ_sF_nc (by omega)]; exact e262
  exact g_ret ⟨rfl, hIH264, (JX_bec hbr hdr hIH226 hIH236  hJ eH216 eH221 eH226 eH231 eH236 eH241 eH246 (fun x k => by rw [eH264, aZ_sF, eH261, aZ_sF, eH258, aZ_sF, eH255, aZ_sF, eH252, aZ_sF, eH249, aZ_sF])), (e265.symm.trans ek1_1)⟩
