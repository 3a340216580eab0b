set_option maxRecDepth 4000 in
set_option maxHeartbeats 4000000 in
/-- X0.forget -/
theorem s_1 (H : mzH) (hI : gI SX H) (hJ : JX H) : gCall 1 [.ref 54] H (gRv (fun H' => gI SX H' ∧ JX H' ∧ fZ H' 1 1 = fZ H 1 1 ∧ kpX H H')) := by
  obtain ⟨k1_1, ek1_1⟩ : ∃ z, z = fZ H 1 1 := ⟨_, rfl⟩
  have ik1_1 : k1_1.toInt = (fZ H 1 1).toInt := by rw [← ek1_1]
  have bk1_1 : 0 ≤ k1_1.toInt ∧ k1_1.toInt ≤ 900 := by rw [ek1_1]; exact fZ_of hI sx_1 rfl
  have mkfr : kpX H H := kpX_r
  refine gG_call [(0, .ref 54)] ⟨rfl, trivial⟩ ?_
  show gG 1 zB_1 (mzBlk zB_1 0) [(0, .ref 54)] [] H 0 0 _
  refine g_aload_n rfl ?_
  refine g_iconst (by decide) (fun v33 kv33 => ?_)
  refine g_pfz hI sx_54 rfl (by first | with_reducible assumption | omega) (fun H34 eH34 hIH34 => ?_)
  have hJH34 : JX H34 := JX_sF eH34 hJ
  have e35 : k1_1 = fZ H34 1 1 := by rw [eH34, fZ_sF_nc (by first | with_reducible assumption | omega)]; exact ek1_1
  have m36 : kpX H H34 := kpX_F mkfr eH34 (by first | with_reducible assumption | omega)
  refine g_aload_n rfl ?_
  refine g_iconst (by decide) (fun v37 kv37 => ?_)
  refine g_pfz hIH34 sx_54 rfl (by first | with_reducible assumption | omega) (fun H38 eH38 hIH38 => ?_)
  have hJH38 : JX H38 := JX_sF eH38 hJH34
  have e39 : k1_1 = fZ H38 1 1 := by rw [eH38, fZ_sF_nc (by first | with_reducible assumption | omega)]; exact e35
  have m40 : kpX H H38 := kpX_F m36 eH38 (by first | with_reducible assumption | omega)
  exact g_ret ⟨rfl, hIH38, hJH38, (e39.symm.trans ek1_1), m40⟩
set_option maxRecDepth 4000 in
set_option maxHeartbeats 4000000 in
/-- X8.clear -/
theorem s_83 (w : Nat) (hw : zWo w) (H : mzH) (hI : gI SX H) (hJ : JX H) : gCall 83 [.ref w] H (gRv (fun H' => gI SX H' ∧ JX H' ∧ fZ H' 1 1 = fZ H 1 1 ∧ kpX H H')) := by
  obtain ⟨hwr, hw0, hw1, hw2, hw3, hw4, hw5, hw6⟩ := id hw
  obtain ⟨k1_1, ek1_1⟩ : ∃ z, z = fZ H 1 1 := ⟨_, rfl⟩
  have ik1_1 : k1_1.toInt = (fZ H 1 1).toInt := by rw [← ek1_1]
  have bk1_1 : 0 ≤ k1_1.toInt ∧ k1_1.toInt ≤ 900 := by rw [ek1_1]; exact fZ_of hI sx_1 rfl
  have mkfr : kpX H H := kpX_r
  refine gG_call [(0, .ref w)] ⟨rfl, trivial⟩ ?_
  show gG 1 zB_83 (mzBlk zB_83 0) [(0, .ref w)] [] H 0 0 _
  refine g_aload_n rfl ?_
  refine g_gfr hI hw0 rfl ?_
  refine g_iconst (by decide) (fun v145 kv145 => ?_)
  refine g_invtv rfl rfl rfl (s_fill (w + 1) hw1 (by decide) v145 (by first | with_reducible assumption | omega) H hI) (fun H146 r147 => ?_)
  obtain ⟨hIH146, fH146, mH146, _⟩ := r147
  have hJH146 : JX H146 := JX_of hJ (fun k => ⟨mH146 (by first | with_reducible assumption | omega), mH146 (by first | with_reducible assumption | omega), mH146 (by first | with_reducible assumption | omega), mH146 (by first | with_reducible assumption | omega)⟩)
  have e149 : k1_1 = fZ H146 1 1 := ek1_1.trans (fH146 _ _).symm
  have m150 : kpX H H146 := kpX_t mkfr (fun _ _ => ⟨fH146 _, fun _ => mH146 (by first | with_reducible assumption | omega)⟩)
  refine g_aload_n rfl ?_
  refine g_gfr hIH146 hw0 rfl ?_
  refine g_bipush (by decide) (fun v151 kv151 => ?_)
  refine g_invtv rfl rfl rfl (s_fill (w + 2) hw2 (by decide) v151 (by first | with_reducible assumption | omega) H146 hIH146) (fun H152 r153 => ?_)
  obtain ⟨hIH152, fH152, mH152, _⟩ := r153
  have hJH152 : JX H152 := JX_of hJH146 (fun k => ⟨mH152 (by first | with_reducible assumption | omega), mH152 (by first | with_reducible assumption | omega), mH152 (by first | with_reducible assumption | omega), mH152 (by first | with_reducible assumption | omega)⟩)
  have e155 : k1_1 = fZ H152 1 1 := e149.trans (fH152 _ _).symm
  have m156 : kpX H H152 := kpX_t m150 (fun _ _ => ⟨fH152 _, fun _ => mH152 (by first | with_reducible assumption | omega)⟩)
  refine g_aload_n rfl ?_
  refine g_gfr hIH152 hw0 rfl ?_
  refine g_iconst (by decide) (fun v157 kv157 => ?_)
  refine g_invtv rfl rfl rfl (s_fill (w + 3) hw3 (by decide) v157 (by first | with_reducible assumption | omega) H152 hIH152) (fun H158 r159 => ?_)
  obtain ⟨hIH158, fH158, mH158, _⟩ := r159
  have hJH158 : JX H158 := JX_of hJH152 (fun k => ⟨mH158 (by first | with_reducible assumption | omega), mH158 (by first | with_reducible assumption | omega), mH158 (by first | with_reducible assumption | omega), mH158 (by first | with_reducible assumption | omega)⟩)
  have e161 : k1_1 = fZ H158 1 1 := e155.trans (fH158 _ _).symm
  have m162 : kpX H H158 := kpX_t m156 (fun _ _ => ⟨fH158 _, fun _ => mH158 (by first | with_reducible assumption | omega)⟩)
  refine g_aload_n rfl ?_
  refine g_gfr hIH158 hw0 rfl ?_
  refine g_iconst (by decide) (fun v163 kv163 => ?_)
  refine g_invtv rfl rfl rfl (s_fill (w + 4) hw4 (by decide) v163 (by first | with_reducible assumption | omega) H158 hIH158) (fun H164 r165 => ?_)
  obtain ⟨hIH164, fH164, mH164, _⟩ := r165
  have hJH164 : JX H164 := JX_of hJH158 (fun k => ⟨mH164 (by first | with_reducible assumption | omega), mH164 (by first | with_reducible assumption | omega), mH164 (by first | with_reducible assumption | omega), mH164 (by first | with_reducible assumption | omega)⟩)
  have e167 : k1_1 = fZ H164 1 1 := e161.trans (fH164 _ _).symm
  have m168 : kpX H H164 := kpX_t m162 (fun _ _ => ⟨fH164 _, fun _ => mH164 (by first | with_reducible assumption | omega)⟩)
  refine g_aload_n rfl ?_
  refine g_gfr hIH164 hw0 rfl ?_
  refine g_bipush (by decide) (fun v169 kv169 => ?_)
  refine g_invtv rfl rfl rfl (s_fill (w + 5) hw5 (by decide) v169 (by first | with_reducible assumption | omega) H164 hIH164) (fun H170 r171 => ?_)
  obtain ⟨hIH170, fH170, mH170, _⟩ := r171
  have hJH170 : JX H170 := JX_of hJH164 (fun k => ⟨mH170 (by first | with_reducible assumption | omega), mH170 (by first | with_reducible assumption | omega), mH170 (by first | with_reducible assumption | omega), mH170 (by first | with_reducible assumption | omega)⟩)
  have e173 : k1_1 = fZ H170 1 1 := e167.trans (fH170 _ _).symm
  have m174 : kpX H H170 := kpX_t m168 (fun _ _ => ⟨fH170 _, fun _ => mH170 (by first | with_reducible assumption | omega)⟩)
  refine g_aload_n rfl ?_
  refine g_gfr hIH170 hw0 rfl ?_
  refine g_iconst (by decide) (fun v175 kv175 => ?_)
  refine g_invtv rfl rfl rfl (s_fill (w + 6) hw6 (by decide) v175 (by first | with_reducible assumption | omega) H170 hIH170) (fun H176 r177 => ?_)
  obtain ⟨hIH176, fH176, mH176, _⟩ := r177
  have hJH176 : JX H176 := JX_of hJH170 (fun k => ⟨mH176 (by first | with_reducible assumption | omega), mH176 (by first | with_reducible assumption | omega), mH176 (by first | with_reducible assumption | omega), mH176 (by first | with_reducible assumption | omega)⟩)
  have e179 : k1_1 = fZ H176 1 1 := e173.trans (fH176 _ _).symm
  have m180 : kpX H H176 := kpX_t m174 (fun _ _ => ⟨fH176 _, fun _ => mH176 (by first | with_reducible assumption | omega)⟩)
  exact g_ret ⟨rfl, hIH176, hJH176, (e179.symm.trans ek1_1), m180⟩
set_option maxRecDepth 4000 in
set_option maxHeartbeats 4000000 in
/-- X8.become -/
theorem s_84 (w : Nat) (hw : zWo w) (u : Nat) (hu : zWo u) (H : mzH) (hI : gI SX H) (hJ : JX H) : gCall 84 [.ref w, .ref u] H (gRv (fun H' => gI SX H' ∧ JX H' ∧ fZ H' 1 1 = fZ H 1 1 ∧ kpX H H')) := by
  obtain ⟨hwr, hw0, hw1, hw2, hw3, hw4, hw5, hw6⟩ := id hw
  obtain ⟨hur, hu0, hu1, hu2, hu3, hu4, hu5, hu6⟩ := id hu
  obtain ⟨k1_1, ek1_1⟩ : ∃ z, z = fZ H 1 1 := ⟨_, rfl⟩
  have ik1_1 : k1_1.toInt = (fZ H 1 1).toInt := by rw [← ek1_1]
  have bk1_1 : 0 ≤ k1_1.toInt ∧ k1_1.toInt ≤ 900 := by rw [ek1_1]; exact fZ_of hI sx_1 rfl
  have mkfr : kpX H H := kpX_r
  refine gG_call [(0, .ref w), (1, .ref u)] ⟨rfl, rfl, trivial⟩ ?_
  show gG 2 zB_84 (mzBlk zB_84 0) [(0, .ref w), (1, .ref u)] [] H 0 0 _
  refine g_aload_n rfl ?_
  refine g_gfr hI hu0 rfl ?_
  refine g_iconst (by decide) (fun v145 kv145 => ?_)
  refine g_aload_n rfl ?_
  refine g_gfr hI hw0 rfl ?_
  refine g_iconst (by decide) (fun v146 kv146 => ?_)
  refine g_bipush (by decide) (fun v147 kv147 => ?_)
  refine g_acp hI hw1 hu1 (by decide) (by decide) (by first | with_reducible assumption | omega) (by first | with_reducible assumption | omega) (by first | with_reducible assumption | omega) rfl (fun H148 eH148 hIH148 => ?_)
  have hJH148 : JX H148 := JX_sC (by first | with_reducible assumption | omega) eH148 hJ
  have e149 : k1_1 = fZ H148 1 1 := by rw [eH148, fZ_sC hI hw1 hu1]; exact ek1_1
  have m150 : kpX H H148 := kpX_C hI hw1 hu1 mkfr eH148 (by first | with_reducible assumption | omega)
  refine g_aload_n rfl ?_
  refine g_gfr hIH148 hu0 rfl ?_
  refine g_iconst (by decide) (fun v151 kv151 => ?_)
  refine g_aload_n rfl ?_
  refine g_gfr hIH148 hw0 rfl ?_
  refine g_iconst (by decide) (fun v152 kv152 => ?_)
  refine g_bipush (by decide) (fun v153 kv153 => ?_)
  refine g_acp hIH148 hw2 hu2 (by decide) (by decide) (by first | with_reducible assumption | omega) (by first | with_reducible assumption | omega) (by first | with_reducible assumption | omega) rfl (fun H154 eH154 hIH154 => ?_)
  have hJH154 : JX H154 := JX_sC (by first | with_reducible assumption | omega) eH154 hJH148
  have e155 : k1_1 = fZ H154 1 1 := by rw [eH154, fZ_sC hIH148 hw2 hu2]; exact e149
  have m156 : kpX H H154 := kpX_C hIH148 hw2 hu2 m150 eH154 (by first | with_reducible assumption | omega)
  refine g_aload_n rfl ?_
  refine g_gfr hIH154 hu0 rfl ?_
  refine g_iconst (by decide) (fun v157 kv157 => ?_)
  refine g_aload_n rfl ?_
  refine g_gfr hIH154 hw0 rfl ?_
  refine g_iconst (by decide) (fun v158 kv158 => ?_)
  refine g_bipush (by decide) (fun v159 kv159 => ?_)
  refine g_acp hIH154 hw3 hu3 (by decide) (by decide) (by first | with_reducible assumption | omega) (by first | with_reducible assumption | omega) (by first | with_reducible assumption | omega) rfl (fun H160 eH160 hIH160 => ?_)
  have hJH160 : JX H160 := JX_sC (by first | with_reducible assumption | omega) eH160 hJH154
  have e161 : k1_1 = fZ H160 1 1 := by rw [eH160, fZ_sC hIH154 hw3 hu3]; exact e155
  have m162 : kpX H H160 := kpX_C hIH154 hw3 hu3 m156 eH160 (by first | with_reducible assumption | omega)
  refine g_aload_n rfl ?_
  refine g_gfr hIH160 hu0 rfl ?_
  refine g_iconst (by decide) (fun v163 kv163 => ?_)
  refine g_aload_n rfl ?_
  refine g_gfr hIH160 hw0 rfl ?_
  refine g_iconst (by decide) (fun v164 kv164 => ?_)
  refine g_bipush (by decide) (fun v165 kv165 => ?_)
  refine g_acp hIH160 hw4 hu4 (by decide) (by decide) (by first | with_reducible assumption | omega) (by first | with_reducible assumption | omega) (by first | with_reducible assumption | omega) rfl (fun H166 eH166 hIH166 => ?_)
  have hJH166 : JX H166 := JX_sC (by first | with_reducible assumption | omega) eH166 hJH160
  have e167 : k1_1 = fZ H166 1 1 := by rw [eH166, fZ_sC hIH160 hw4 hu4]; exact e161
  have m168 : kpX H H166 := kpX_C hIH160 hw4 hu4 m162 eH166 (by first | with_reducible assumption | omega)
  refine g_aload_n rfl ?_
  refine g_gfr hIH166 hu0 rfl ?_
  refine g_iconst (by decide) (fun v169 kv169 => ?_)
  refine g_aload_n rfl ?_
  refine g_gfr hIH166 hw0 rfl ?_
  refine g_iconst (by decide) (fun v170 kv170 => ?_)
  refine g_bipush (by decide) (fun v171 kv171 => ?_)
  refine g_acp hIH166 hw5 hu5 (by decide) (by decide) (by first | with_reducible assumption | omega) (by first | with_reducible assumption | omega) (by first | with_reducible assumption | omega) rfl (fun H172 eH172 hIH172 => ?_)
  have hJH172 : JX H172 := JX_sC (by first | with_reducible assumption | omega) eH172 hJH166
  have e173 : k1_1 = fZ H172 1 1 := by rw [eH172, fZ_sC hIH166 hw5 hu5]; exact e167
  have m174 : kpX H H172 := kpX_C hIH166 hw5 hu5 m168 eH172 (by first | with_reducible assumption | omega)
  refine g_aload_n rfl ?_
  refine g_gfr hIH172 hu0 rfl ?_
  refine g_iconst (by decide) (fun v175 kv175 => ?_)
  refine g_aload_n rfl ?_
  refine g_gfr hIH172 hw0 rfl ?_
  refine g_iconst (by decide) (fun v176 kv176 => ?_)
  refine g_bipush (by decide) (fun v177 kv177 => ?_)
  refine g_acp hIH172 hw6 hu6 (by decide) (by decide) (by first | with_reducible assumption | omega) (by first | with_reducible assumption | omega) (by first | with_reducible assumption | omega) rfl (fun H178 eH178 hIH178 => ?_)
  have hJH178 : JX H178 := JX_sC (by first | with_reducible assumption | omega) eH178 hJH172
  have e179 : k1_1 = fZ H178 1 1 := by rw [eH178, fZ_sC hIH172 hw6 hu6]; exact e173
  have m180 : kpX H H178 := kpX_C hIH172 hw6 hu6 m174 eH178 (by first | with_reducible assumption | omega)
  exact g_ret ⟨rfl, hIH178, hJH178, (e179.symm.trans ek1_1), m180⟩
set_option maxRecDepth 4000 in
set_option maxHeartbeats 4000000 in
/-- X2.hourAt -/
theorem s_27 (c : Nat) (hc : zCo c) (a1 : Int32) (ha1 : 0 ≤ a1.toInt ∧ a1.toInt ≤ 59) (H : mzH) (hI : gI SX H) (hJ : JX H) : gCall 27 [.ref c, .int a1] H (gRi (fun v H' => H = H')) := by
  obtain ⟨hcr, hc0, hc1, hc2⟩ := id hc
  refine gG_call [(0, .ref c), (1, .int a1)] ⟨rfl, rfl, trivial⟩ ?_
  show gG 2 zB_27 (mzBlk zB_27 0) [(0, .ref c), (1, .int a1)] [] H 0 0 _
  refine g_aload_n rfl ?_
  refine g_gfr hI hc0 rfl ?_
  refine g_aload_n rfl ?_
  refine g_gfr hI hc0 rfl ?_
  refine g_iload_n rfl ?_
  refine g_iaload hI hc2 rfl (by first | with_reducible assumption | omega) (fun v9 ev9 lv9 uv9 => ?_)
  refine g_iaload hI hc1 rfl (by first | with_reducible assumption | omega) (fun v10 ev10 lv10 uv10 => ?_)
  exact g_iret ⟨_, rfl, rfl⟩
set_option maxRecDepth 4000 in
set_option maxHeartbeats 4000000 in
/-- X8.isMade -/
theorem s_88 (w : Nat) (hw : zWo w) (a1 : Int32) (ha1 : 0 ≤ a1.toInt ∧ a1.toInt ≤ 39) (H : mzH) (hI : gI SX H) (hJ : JX H) : gCall 88 [.ref w, .int a1] H (gRi (fun v H' => H = H' ∧ (0 ≤ v.toInt ∧ v.toInt ≤ 1))) := by
  obtain ⟨hwr, hw0, hw1, hw2, hw3, hw4, hw5, hw6⟩ := id hw
  refine gG_call [(0, .ref w), (1, .int a1)] ⟨rfl, rfl, trivial⟩ ?_
  show gG 2 zB_88 (mzBlk zB_88 0) [(0, .ref w), (1, .int a1)] [] H 0 0 _
  refine g_aload_n rfl ?_
  refine g_gfr hI hw0 rfl ?_
  refine g_iload_n rfl ?_
  refine g_iaload hI hw1 rfl (by first | with_reducible assumption | omega) (fun v21 ev21 lv21 uv21 => ?_)
  refine g_iconst (by decide) (fun v22 kv22 => ?_)
  refine g_if2_eq (fun c23 => ?_) (fun c23 => ?_)
  · refine g_iconst (by decide) (fun v24 kv24 => ?_)
    refine g_nop ?_
    exact g_zret (by first | with_reducible assumption | omega) ⟨_, rfl, rfl, (by first | with_reducible assumption | omega)⟩
  · refine g_iconst (by decide) (fun v25 kv25 => ?_)
    refine g_goto ?_
    exact g_zret (by first | with_reducible assumption | omega) ⟨_, rfl, rfl, (by first | with_reducible assumption | omega)⟩
set_option maxRecDepth 4000 in
set_option maxHeartbeats 4000000 in
/-- X8.has -/
theorem s_85 (w : Nat) (hw : zWo w) (a1 : Int32) (ha1 : 0 ≤ a1.toInt ∧ a1.toInt ≤ 39) (a2 : Int32) (H : mzH) (hI : gI SX H) (hJ : JX H) : gCall 85 [.ref w, .int a1, .int a2] H (gRi (fun v H' => H = H' ∧ (0 ≤ v.toInt ∧ v.toInt ≤ 1))) := by
  obtain ⟨hwr, hw0, hw1, hw2, hw3, hw4, hw5, hw6⟩ := id hw
  refine gG_call [(0, .ref w), (1, .int a1), (2, .int a2)] ⟨rfl, rfl, rfl, trivial⟩ ?_
  show gG 3 zB_85 (mzBlk zB_85 0) [(0, .ref w), (1, .int a1), (2, .int a2)] [] H 0 0 _
  refine g_aload_n rfl ?_
  refine g_gfr hI hw0 rfl ?_
  refine g_iload_n rfl ?_
  refine g_iaload hI hw6 rfl (by first | with_reducible assumption | omega) (fun v21 ev21 lv21 uv21 => ?_)
  refine g_iload_n rfl ?_
  refine g_iand' (fun v22 _ => ?_)
  refine g_if_eq (fun c23 => ?_) (fun c23 => ?_)
  · refine g_iconst (by decide) (fun v24 kv24 => ?_)
    refine g_nop ?_
    exact g_zret (by first | with_reducible assumption | omega) ⟨_, rfl, rfl, (by first | with_reducible assumption | omega)⟩
  · refine g_iconst (by decide) (fun v25 kv25 => ?_)
    refine g_goto ?_
    exact g_zret (by first | with_reducible assumption | omega) ⟨_, rfl, rfl, (by first | with_reducible assumption | omega)⟩
set_option maxRecDepth 4000 in
set_option maxHeartbeats 4000000 in
/-- X8.topmost -/
theorem s_89 (w : Nat) (hw : zWo w) (a1 : Int32) (ha1 : 0 ≤ a1.toInt ∧ a1.toInt ≤ 39) (H : mzH) (hI : gI SX H) (hJ : JX H) : gCall 89 [.ref w, .int a1] H (gRi (fun v H' => H = H' ∧ (0 ≤ v.toInt ∧ v.toInt ≤ 39))) := by
  obtain ⟨hwr, hw0, hw1, hw2, hw3, hw4, hw5, hw6⟩ := id hw
  refine gG_call [(0, .ref w), (1, .int a1)] ⟨rfl, rfl, trivial⟩ ?_
  show gG 4 zB_89 (mzBlk zB_89 0) [(0, .ref w), (1, .int a1)] [] H 0 0 _
  refine g_iload_n rfl ?_
  refine g_istore_n (l' := [(0, .ref w), (1, .int a1), (2, .int a1)]) rfl rfl ?_
  refine g_iconst (by decide) (fun v53 kv53 => ?_)
  refine g_istore_n (l' := [(0, .ref w), (1, .int a1), (2, .int a1), (3, .int v53)]) rfl rfl ?_
  refine g_nop ?_
  have L56 : ∀ (N : Nat) (v54 : Int32) (v55 : Int32), (0 ≤ v54.toInt ∧ v54.toInt ≤ 39) → (0 ≤ v55.toInt ∧ v55.toInt ≤ 2) → (2 - v55.toInt).toNat < N → gG 4 zB_89 (mzBlk zB_89 1) [(0, .ref w), (1, .int a1), (2, .int v54), (3, .int v55)] [] H 0 0 (gRi (fun v H' => H = H' ∧ (0 ≤ v.toInt ∧ v.toInt ≤ 39))) := by
    intro N
    induction N with
    | zero => intro v54 v55 bv54 bv55 hmL56; exact absurd hmL56 (Nat.not_lt_zero _)
    | succ N ihL56 =>
      intro v54 v55 bv54 bv55 hmL56
      refine g_iload_n rfl ?_
      refine g_iconst (by decide) (fun v57 kv57 => ?_)
      refine g_if2_ge (fun c58 => ?_) (fun c58 => ?_)
      · refine g_iload_n rfl ?_
        exact g_iret ⟨_, rfl, rfl, (by first | with_reducible assumption | omega)⟩
      · refine g_aload_n rfl ?_
        refine g_gfr hI hw0 rfl ?_
        refine g_iload_n rfl ?_
        refine g_iaload hI hw2 rfl (by first | with_reducible assumption | omega) (fun v59 ev59 lv59 uv59 => ?_)
        refine g_if_lt (fun c60 => ?_) (fun c60 => ?_)
        · refine g_iload_n rfl ?_
          exact g_iret ⟨_, rfl, rfl, (by first | with_reducible assumption | omega)⟩
        · refine g_aload_n rfl ?_
          refine g_gfr hI hw0 rfl ?_
          refine g_iload_n rfl ?_
          refine g_ialoadk hI hw2 rfl (by first | with_reducible assumption | omega) ev59 ?_
          refine g_istore_n (l' := [(0, .ref w), (1, .int a1), (2, .int v59), (3, .int v55)]) rfl rfl ?_
          refine g_iinc (l' := (fun v61 => [(0, .ref w), (1, .int a1), (2, .int v59), (3, .int v61)])) rfl rfl (by decide) (by first | with_reducible assumption | omega) (fun _ => rfl) (fun v61 ev61 => ?_)
          refine g_goto ?_
          exact ihL56 v59 v61 (by first | with_reducible assumption | omega) (by first | with_reducible assumption | omega) (by first | with_reducible assumption | omega)
  exact L56 _ a1 v53 (by first | with_reducible assumption | omega) (by first | with_reducible assumption | omega) (Nat.lt_succ_self _)
set_option maxRecDepth 4000 in
set_option maxHeartbeats 4000000 in
/-- X8.heldAtOnce -/
theorem s_103 (w : Nat) (hw : zWo w) (a1 : Int32) (H : mzH) (hI : gI SX H) (hJ : JX H) : gCall 103 [.ref w, .int a1] H (gRi (fun v H' => H = H')) := by
  obtain ⟨hwr, hw0, hw1, hw2, hw3, hw4, hw5, hw6⟩ := id hw
  refine gG_call [(0, .ref w), (1, .int a1)] ⟨rfl, rfl, trivial⟩ ?_
  show gG 4 zB_103 (mzBlk zB_103 0) [(0, .ref w), (1, .int a1)] [] H 0 0 _
  refine g_iconst (by decide) (fun v399 kv399 => ?_)
  refine g_istore_n (l' := [(0, .ref w), (1, .int a1), (2, .int v399)]) rfl rfl ?_
  refine g_iconst (by decide) (fun v400 kv400 => ?_)
  refine g_istore_n (l' := [(0, .ref w), (1, .int a1), (2, .int v399), (3, .int v400)]) rfl rfl ?_
  refine g_nop ?_
  have L403 : ∀ (N : Nat) (v401 : Int32) (v402 : Int32), (0 ≤ v402.toInt ∧ v402.toInt ≤ 40) → (40 - v402.toInt).toNat < N → gG 4 zB_103 (mzBlk zB_103 1) [(0, .ref w), (1, .int a1), (2, .int v401), (3, .int v402)] [] H 0 0 (gRi (fun v H' => H = H')) := by
    intro N
    induction N with
    | zero => intro v401 v402 bv402 hmL403; exact absurd hmL403 (Nat.not_lt_zero _)
    | succ N ihL403 =>
      intro v401 v402 bv402 hmL403
      refine g_iload_n rfl ?_
      refine g_bipush (by decide) (fun v404 kv404 => ?_)
      refine g_if2_ge (fun c405 => ?_) (fun c405 => ?_)
      · refine g_iload_n rfl ?_
        exact g_iret ⟨_, rfl, rfl⟩
      · refine g_iload_n rfl ?_
        refine g_aload_n rfl ?_
        refine g_gfr hI hw0 rfl ?_
        refine g_iload_n rfl ?_
        refine g_iaload hI hw2 rfl (by first | with_reducible assumption | omega) (fun v406 ev406 lv406 uv406 => ?_)
        refine g_iload_n rfl ?_
        refine g_if2_ne (fun c407 => ?_) (fun c407 => ?_)
        · refine g_iconst (by decide) (fun v408 kv408 => ?_)
          refine g_nop ?_
          refine g_iadd (by have := gz_any v401; omega) (fun v409 ev409 => ?_)
          refine g_istore_n (l' := [(0, .ref w), (1, .int a1), (2, .int v409), (3, .int v402)]) rfl rfl ?_
          refine g_iinc (l' := (fun v410 => [(0, .ref w), (1, .int a1), (2, .int v409), (3, .int v410)])) rfl rfl (by decide) (by first | with_reducible assumption | omega) (fun _ => rfl) (fun v410 ev410 => ?_)
          refine g_goto ?_
          exact ihL403 v409 v410 (by first | with_reducible assumption | omega) (by first | with_reducible assumption | omega)
        · refine g_iconst (by decide) (fun v411 kv411 => ?_)
          refine g_goto ?_
          refine g_iadd' (fun v412 ov412 => ?_)
          refine g_istore_n (l' := [(0, .ref w), (1, .int a1), (2, .int v412), (3, .int v402)]) rfl rfl ?_
          refine g_iinc (l' := (fun v413 => [(0, .ref w), (1, .int a1), (2, .int v412), (3, .int v413)])) rfl rfl (by decide) (by first | with_reducible assumption | omega) (fun _ => rfl) (fun v413 ev413 => ?_)
          refine g_goto ?_
          exact ihL403 v412 v413 (by first | with_reducible assumption | omega) (by first | with_reducible assumption | omega)
  exact L403 _ v399 v400 (by first | with_reducible assumption | omega) (Nat.lt_succ_self _)
set_option maxRecDepth 4000 in
set_option maxHeartbeats 4000000 in
/-- X8.objectionToPack -/
theorem s_95 (w : Nat) (hw : zWo w) (b : Nat) (hb : zBo b) (a2 : Int32) (ha2 : 0 ≤ a2.toInt ∧ a2.toInt ≤ 39) (a3 : Int32) (ha3 : 0 ≤ a3.toInt ∧ a3.toInt ≤ 39) (H : mzH) (hI : gI SX H) (hJ : JX H) : gCall 95 [.ref w, .ref b, .int a2, .int a3] H (gRi (fun v H' => H = H')) := by
  obtain ⟨hwr, hw0, hw1, hw2, hw3, hw4, hw5, hw6⟩ := id hw
  obtain ⟨hbr, hb0, hb1, hb2, hb3, hb4, hb5, hb6, hb7⟩ := id hb
  refine gG_call [(0, .ref w), (1, .ref b), (2, .int a2), (3, .int a3)] ⟨rfl, rfl, rfl, rfl, trivial⟩ ?_
  show gG 7 zB_95 (mzBlk zB_95 0) [(0, .ref w), (1, .ref b), (2, .int a2), (3, .int a3)] [] H 0 0 _
  refine g_aload_n rfl ?_
  refine g_iload_n rfl ?_
  refine g_invvi hI hw0 rfl rfl rfl rfl (s_89 w hw a2 (by first | with_reducible assumption | omega) H hI hJ) (fun v207 H205 r206 => ?_)
  obtain ⟨rfl, bv207⟩ := r206
  refine g_istore (l' := [(0, .ref w), (1, .ref b), (2, .int a2), (3, .int a3), (4, .int v207)]) rfl rfl ?_
  refine g_aload_n rfl ?_
  refine g_iload_n rfl ?_
  refine g_invvi hI hw0 rfl rfl rfl rfl (s_89 w hw a3 (by first | with_reducible assumption | omega) H hI hJ) (fun v210 H208 r209 => ?_)
  obtain ⟨rfl, bv210⟩ := r209
  refine g_istore (l' := [(0, .ref w), (1, .ref b), (2, .int a2), (3, .int a3), (4, .int v207), (5, .int v210)]) rfl rfl ?_
  refine g_aload_n rfl ?_
  refine g_gfr hI hw0 rfl ?_
  refine g_iload_n rfl ?_
  refine g_iaload hI hw1 rfl (by first | with_reducible assumption | omega) (fun v211 ev211 lv211 uv211 => ?_)
  refine g_aload_n rfl ?_
  refine g_gfr hI hw0 rfl ?_
  refine g_iload_n rfl ?_
  refine g_iaload hI hw1 rfl (by first | with_reducible assumption | omega) (fun v212 ev212 lv212 uv212 => ?_)
  refine g_iconst (by decide) (fun v213 kv213 => ?_)
  refine g_iadd' (fun v214 ov214 => ?_)
  refine g_if2_eq (fun c215 => ?_) (fun c215 => ?_)
  · refine g_aload_n rfl ?_
    refine g_gfr hI hw0 rfl ?_
    refine g_iload_n rfl ?_
    refine g_iaload hI hw2 rfl (by first | with_reducible assumption | omega) (fun v216 ev216 lv216 uv216 => ?_)
    refine g_if_lt (fun c217 => ?_) (fun c217 => ?_)
    · refine g_aload_n rfl ?_
      refine g_iload rfl ?_
      refine g_iconst (by decide) (fun v218 kv218 => ?_)
      refine g_invvi hI hw0 rfl rfl rfl rfl (s_85 w hw v207 (by first | with_reducible assumption | omega) v218 H hI hJ) (fun v221 H219 r220 => ?_)
      obtain ⟨rfl, bv221⟩ := r220
      refine g_if_ne (fun c222 => ?_) (fun c222 => ?_)
      · refine g_bipush (by decide) (fun v223 kv223 => ?_)
        exact g_iret ⟨_, rfl, rfl⟩
      · refine g_aload_n rfl ?_
        refine g_iload rfl ?_
        refine g_iconst (by decide) (fun v224 kv224 => ?_)
        refine g_invvi hI hw0 rfl rfl rfl rfl (s_85 w hw v210 (by first | with_reducible assumption | omega) v224 H hI hJ) (fun v227 H225 r226 => ?_)
        obtain ⟨rfl, bv227⟩ := r226
        refine g_if_eq (fun c228 => ?_) (fun c228 => ?_)
        · refine g_aload_n rfl ?_
          refine g_gfr hI hw0 rfl ?_
          refine g_iload_n rfl ?_
          refine g_ialoadk hI hw1 rfl (by first | with_reducible assumption | omega) ev211 ?_
          refine g_iconst (by decide) (fun v229 kv229 => ?_)
          refine g_if2_ne (fun c230 => ?_) (fun c230 => ?_)
          · refine g_aload_n rfl ?_
            refine g_gfi hI hb0 rfl (fun v231 ev231 lv231 uv231 => ?_)
            refine g_nop ?_
            refine g_istore (l' := [(0, .ref w), (1, .ref b), (2, .int a2), (3, .int a3), (4, .int v207), (5, .int v210), (6, .int v231)]) rfl rfl ?_
            refine g_aload_n rfl ?_
            refine g_gfr hI hw0 rfl ?_
            refine g_iload rfl ?_
            refine g_iaload hI hw3 rfl (by first | with_reducible assumption | omega) (fun v232 ev232 lv232 uv232 => ?_)
            refine g_aload_n rfl ?_
            refine g_gfr hI hw0 rfl ?_
            refine g_iload rfl ?_
            refine g_iaload hI hw3 rfl (by first | with_reducible assumption | omega) (fun v233 ev233 lv233 uv233 => ?_)
            refine g_if2_ne (fun c234 => ?_) (fun c234 => ?_)
            · refine g_bipush (by decide) (fun v235 kv235 => ?_)
              refine g_goto ?_
              exact g_iret ⟨_, rfl, rfl⟩
            · refine g_aload_n rfl ?_
              refine g_iload_n rfl ?_
              refine g_invvi hI hw0 rfl rfl rfl rfl (s_103 w hw a3 H hI hJ) (fun v238 H236 r237 => ?_)
              obtain rfl := r237
              refine g_iload rfl ?_
              refine g_if2_lt (fun c239 => ?_) (fun c239 => ?_)
              · refine g_iconst (by decide) (fun v240 kv240 => ?_)
                refine g_nop ?_
                exact g_iret ⟨_, rfl, rfl⟩
              · refine g_nop ?_
                refine g_bipush (by decide) (fun v241 kv241 => ?_)
                refine g_goto ?_
                exact g_iret ⟨_, rfl, rfl⟩
          · refine g_aload_n rfl ?_
            refine g_gfi hI hb0 rfl (fun v242 ev242 lv242 uv242 => ?_)
            refine g_goto ?_
            refine g_istore (l' := [(0, .ref w), (1, .ref b), (2, .int a2), (3, .int a3), (4, .int v207), (5, .int v210), (6, .int v242)]) rfl rfl ?_
            refine g_aload_n rfl ?_
            refine g_gfr hI hw0 rfl ?_
            refine g_iload rfl ?_
            refine g_iaload hI hw3 rfl (by first | with_reducible assumption | omega) (fun v243 ev243 lv243 uv243 => ?_)
            refine g_aload_n rfl ?_
            refine g_gfr hI hw0 rfl ?_
            refine g_iload rfl ?_
            refine g_iaload hI hw3 rfl (by first | with_reducible assumption | omega) (fun v244 ev244 lv244 uv244 => ?_)
            refine g_if2_ne (fun c245 => ?_) (fun c245 => ?_)
            · refine g_bipush (by decide) (fun v246 kv246 => ?_)
              refine g_goto ?_
              exact g_iret ⟨_, rfl, rfl⟩
            · refine g_aload_n rfl ?_
              refine g_iload_n rfl ?_
              refine g_invvi hI hw0 rfl rfl rfl rfl (s_103 w hw a3 H hI hJ) (fun v249 H247 r248 => ?_)
              obtain rfl := r248
              refine g_iload rfl ?_
              refine g_if2_lt (fun c250 => ?_) (fun c250 => ?_)
              · refine g_iconst (by decide) (fun v251 kv251 => ?_)
                refine g_nop ?_
                exact g_iret ⟨_, rfl, rfl⟩
              · refine g_nop ?_
                refine g_bipush (by decide) (fun v252 kv252 => ?_)
                refine g_goto ?_
                exact g_iret ⟨_, rfl, rfl⟩
        · refine g_nop ?_
          refine g_bipush (by decide) (fun v253 kv253 => ?_)
          exact g_iret ⟨_, rfl, rfl⟩
    · refine g_iconst (by decide) (fun v254 kv254 => ?_)
      exact g_iret ⟨_, rfl, rfl⟩
  · refine g_iconst (by decide) (fun v255 kv255 => ?_)
    exact g_iret ⟨_, rfl, rfl⟩
set_option maxRecDepth 4000 in
set_option maxHeartbeats 4000000 in
/-- X8.isIn -/
theorem s_90 (w : Nat) (hw : zWo w) (a1 : Int32) (ha1 : 0 ≤ a1.toInt ∧ a1.toInt ≤ 39) (a2 : Int32) (H : mzH) (hI : gI SX H) (hJ : JX H) : gCall 90 [.ref w, .int a1, .int a2] H (gRi (fun v H' => H = H' ∧ (0 ≤ v.toInt ∧ v.toInt ≤ 1))) := by
  obtain ⟨hwr, hw0, hw1, hw2, hw3, hw4, hw5, hw6⟩ := id hw
  refine gG_call [(0, .ref w), (1, .int a1), (2, .int a2)] ⟨rfl, rfl, rfl, trivial⟩ ?_
  show gG 5 zB_90 (mzBlk zB_90 0) [(0, .ref w), (1, .int a1), (2, .int a2)] [] H 0 0 _
  refine g_aload_n rfl ?_
  refine g_gfr hI hw0 rfl ?_
  refine g_iload_n rfl ?_
  refine g_iaload hI hw2 rfl (by first | with_reducible assumption | omega) (fun v85 ev85 lv85 uv85 => ?_)
  refine g_istore_n (l' := [(0, .ref w), (1, .int a1), (2, .int a2), (3, .int v85)]) rfl rfl ?_
  refine g_iconst (by decide) (fun v86 kv86 => ?_)
  refine g_istore (l' := [(0, .ref w), (1, .int a1), (2, .int a2), (3, .int v85), (4, .int v86)]) rfl rfl ?_
  refine g_nop ?_
  have L89 : ∀ (N : Nat) (v87 : Int32) (v88 : Int32), (-5 ≤ v87.toInt ∧ v87.toInt ≤ 39) → (0 ≤ v88.toInt ∧ v88.toInt ≤ 2) → (2 - v88.toInt).toNat < N → gG 5 zB_90 (mzBlk zB_90 1) [(0, .ref w), (1, .int a1), (2, .int a2), (3, .int v87), (4, .int v88)] [] H 0 0 (gRi (fun v H' => H = H' ∧ (0 ≤ v.toInt ∧ v.toInt ≤ 1))) := by
    intro N
    induction N with
    | zero => intro v87 v88 bv87 bv88 hmL89; exact absurd hmL89 (Nat.not_lt_zero _)
    | succ N ihL89 =>
      intro v87 v88 bv87 bv88 hmL89
      refine g_iload rfl ?_
      refine g_iconst (by decide) (fun v90 kv90 => ?_)
      refine g_if2_ge (fun c91 => ?_) (fun c91 => ?_)
      · refine g_iconst (by decide) (fun v92 kv92 => ?_)
        exact g_zret (by first | with_reducible assumption | omega) ⟨_, rfl, rfl, (by first | with_reducible assumption | omega)⟩
      · refine g_iload_n rfl ?_
        refine g_if_lt (fun c93 => ?_) (fun c93 => ?_)
        · refine g_iconst (by decide) (fun v94 kv94 => ?_)
          exact g_zret (by first | with_reducible assumption | omega) ⟨_, rfl, rfl, (by first | with_reducible assumption | omega)⟩
        · refine g_iload_n rfl ?_
          refine g_iload_n rfl ?_
          refine g_if2_ne (fun c95 => ?_) (fun c95 => ?_)
          · refine g_aload_n rfl ?_
            refine g_gfr hI hw0 rfl ?_
            refine g_iload_n rfl ?_
            refine g_iaload hI hw2 rfl (by first | with_reducible assumption | omega) (fun v96 ev96 lv96 uv96 => ?_)
            refine g_istore_n (l' := [(0, .ref w), (1, .int a1), (2, .int a2), (3, .int v96), (4, .int v88)]) rfl rfl ?_
            refine g_iinc (l' := (fun v97 => [(0, .ref w), (1, .int a1), (2, .int a2), (3, .int v96), (4, .int v97)])) rfl rfl (by decide) (by first | with_reducible assumption | omega) (fun _ => rfl) (fun v97 ev97 => ?_)
            refine g_goto ?_
            exact ihL89 v96 v97 (by first | with_reducible assumption | omega) (by first | with_reducible assumption | omega) (by first | with_reducible assumption | omega)
          · refine g_iconst (by decide) (fun v98 kv98 => ?_)
            exact g_zret (by first | with_reducible assumption | omega) ⟨_, rfl, rfl, (by first | with_reducible assumption | omega)⟩
  exact L89 _ v85 v86 (by first | with_reducible assumption | omega) (by first | with_reducible assumption | omega) (Nat.lt_succ_self _)
set_option maxRecDepth 4000 in
set_option maxHeartbeats 4000000 in
/-- X8.isQuarantinedWithin -/
theorem s_97 (w : Nat) (hw : zWo w) (a1 : Int32) (H : mzH) (hI : gI SX H) (hJ : JX H) : gCall 97 [.ref w, .int a1] H (gRi (fun v H' => H = H' ∧ (0 ≤ v.toInt ∧ v.toInt ≤ 1))) := by
  obtain ⟨hwr, hw0, hw1, hw2, hw3, hw4, hw5, hw6⟩ := id hw
  refine gG_call [(0, .ref w), (1, .int a1)] ⟨rfl, rfl, trivial⟩ ?_
  show gG 3 zB_97 (mzBlk zB_97 0) [(0, .ref w), (1, .int a1)] [] H 0 0 _
  refine g_iconst (by decide) (fun v225 kv225 => ?_)
  refine g_istore_n (l' := [(0, .ref w), (1, .int a1), (2, .int v225)]) rfl rfl ?_
  refine g_nop ?_
  have L227 : ∀ (N : Nat) (v226 : Int32), (0 ≤ v226.toInt ∧ v226.toInt ≤ 40) → (40 - v226.toInt).toNat < N → gG 3 zB_97 (mzBlk zB_97 1) [(0, .ref w), (1, .int a1), (2, .int v226)] [] H 0 0 (gRi (fun v H' => H = H' ∧ (0 ≤ v.toInt ∧ v.toInt ≤ 1))) := by
    intro N
    induction N with
    | zero => intro v226 bv226 hmL227; exact absurd hmL227 (Nat.not_lt_zero _)
    | succ N ihL227 =>
      intro v226 bv226 hmL227
      refine g_iload_n rfl ?_
      refine g_bipush (by decide) (fun v228 kv228 => ?_)
      refine g_if2_ge (fun c229 => ?_) (fun c229 => ?_)
      · refine g_iconst (by decide) (fun v230 kv230 => ?_)
        exact g_zret (by first | with_reducible assumption | omega) ⟨_, rfl, rfl, (by first | with_reducible assumption | omega)⟩
      · refine g_aload_n rfl ?_
        refine g_iload_n rfl ?_
        refine g_bipush (by decide) (fun v231 kv231 => ?_)
        refine g_invvi hI hw0 rfl rfl rfl rfl (s_85 w hw v226 (by first | with_reducible assumption | omega) v231 H hI hJ) (fun v234 H232 r233 => ?_)
        obtain ⟨rfl, bv234⟩ := r233
        refine g_if_eq (fun c235 => ?_) (fun c235 => ?_)
        · refine g_iinc (l' := (fun v236 => [(0, .ref w), (1, .int a1), (2, .int v236)])) rfl rfl (by decide) (by first | with_reducible assumption | omega) (fun _ => rfl) (fun v236 ev236 => ?_)
          refine g_goto ?_
          exact ihL227 v236 (by first | with_reducible assumption | omega) (by first | with_reducible assumption | omega)
        · refine g_iload_n rfl ?_
          refine g_iload_n rfl ?_
          refine g_if2_eq (fun c237 => ?_) (fun c237 => ?_)
          · refine g_iconst (by decide) (fun v238 kv238 => ?_)
            exact g_zret (by first | with_reducible assumption | omega) ⟨_, rfl, rfl, (by first | with_reducible assumption | omega)⟩
          · refine g_aload_n rfl ?_
            refine g_iload_n rfl ?_
            refine g_iload_n rfl ?_
            refine g_invvi hI hw0 rfl rfl rfl rfl (s_90 w hw v226 (by first | with_reducible assumption | omega) a1 H hI hJ) (fun v241 H239 r240 => ?_)
            obtain ⟨rfl, bv241⟩ := r240
            refine g_if_eq (fun c242 => ?_) (fun c242 => ?_)
            · refine g_iinc (l' := (fun v243 => [(0, .ref w), (1, .int a1), (2, .int v243)])) rfl rfl (by decide) (by first | with_reducible assumption | omega) (fun _ => rfl) (fun v243 ev243 => ?_)
              refine g_goto ?_
              exact ihL227 v243 (by first | with_reducible assumption | omega) (by first | with_reducible assumption | omega)
            · refine g_nop ?_
              refine g_iconst (by decide) (fun v244 kv244 => ?_)
              exact g_zret (by first | with_reducible assumption | omega) ⟨_, rfl, rfl, (by first | with_reducible assumption | omega)⟩
  exact L227 _ v225 (by first | with_reducible assumption | omega) (Nat.lt_succ_self _)
set_option maxRecDepth 4000 in
set_option maxHeartbeats 4000000 in
/-- X1.way -/
theorem s_17 (b : Nat) (hb : zBo b) (a1 : Int32) (a2 : Int32) (H : mzH) (hI : gI SX H) (hJ : JX H) : gCall 17 [.ref b, .int a1, .int a2] H (gRi (fun v H' => H = H')) := by
  obtain ⟨hbr, hb0, hb1, hb2, hb3, hb4, hb5, hb6, hb7⟩ := id hb
  refine gG_call [(0, .ref b), (1, .int a1), (2, .int a2)] ⟨rfl, rfl, rfl, trivial⟩ ?_
  show gG 4 zB_17 (mzBlk zB_17 0) [(0, .ref b), (1, .int a1), (2, .int a2)] [] H 0 0 _
  refine g_iload_n rfl ?_
  refine g_if_lt (fun c97 => ?_) (fun c97 => ?_)
  · refine g_iconst (by decide) (fun v98 kv98 => ?_)
    refine g_nop ?_
    refine g_istore_n (l' := [(0, .ref b), (1, .int a1), (2, .int a2), (3, .int v98)]) rfl rfl ?_
    refine g_iload_n rfl ?_
    refine g_if_eq (fun c99 => ?_) (fun c99 => ?_)
    · refine g_bipush (by decide) (fun v100 kv100 => ?_)
      refine g_nop ?_
      exact g_iret ⟨_, rfl, rfl⟩
    · exfalso; omega
  · refine g_iload_n rfl ?_
    refine g_aload_n rfl ?_
    refine g_gfi hI hb0 rfl (fun v101 ev101 lv101 uv101 => ?_)
    refine g_if2_ge (fun c102 => ?_) (fun c102 => ?_)
    · refine g_iconst (by decide) (fun v103 kv103 => ?_)
      refine g_nop ?_
      refine g_istore_n (l' := [(0, .ref b), (1, .int a1), (2, .int a2), (3, .int v103)]) rfl rfl ?_
      refine g_iload_n rfl ?_
      refine g_if_eq (fun c104 => ?_) (fun c104 => ?_)
      · refine g_bipush (by decide) (fun v105 kv105 => ?_)
        refine g_nop ?_
        exact g_iret ⟨_, rfl, rfl⟩
      · exfalso; omega
    · refine g_iload_n rfl ?_
      refine g_if_lt (fun c106 => ?_) (fun c106 => ?_)
      · refine g_iconst (by decide) (fun v107 kv107 => ?_)
        refine g_nop ?_
        refine g_istore_n (l' := [(0, .ref b), (1, .int a1), (2, .int a2), (3, .int v107)]) rfl rfl ?_
        refine g_iload_n rfl ?_
        refine g_if_eq (fun c108 => ?_) (fun c108 => ?_)
        · refine g_bipush (by decide) (fun v109 kv109 => ?_)
          refine g_nop ?_
          exact g_iret ⟨_, rfl, rfl⟩
        · exfalso; omega
      · refine g_iload_n rfl ?_
        refine g_aload_n rfl ?_
        refine g_gfi hI hb0 rfl (fun v110 ev110 lv110 uv110 => ?_)
        refine g_if2_ge (fun c111 => ?_) (fun c111 => ?_)
        · refine g_iconst (by decide) (fun v112 kv112 => ?_)
          refine g_nop ?_
          refine g_istore_n (l' := [(0, .ref b), (1, .int a1), (2, .int a2), (3, .int v112)]) rfl rfl ?_
          refine g_iload_n rfl ?_
          refine g_if_eq (fun c113 => ?_) (fun c113 => ?_)
          · refine g_bipush (by decide) (fun v114 kv114 => ?_)
            refine g_nop ?_
            exact g_iret ⟨_, rfl, rfl⟩
          · exfalso; omega
        · refine g_iconst (by decide) (fun v115 kv115 => ?_)
          refine g_goto ?_
          refine g_istore_n (l' := [(0, .ref b), (1, .int a1), (2, .int a2), (3, .int v115)]) rfl rfl ?_
          refine g_iload_n rfl ?_
          refine g_if_eq (fun c116 => ?_) (fun c116 => ?_)
          · exfalso; omega
          · refine g_aload_n rfl ?_
            refine g_gfr hI hb0 rfl ?_
            refine g_iload_n rfl ?_
            refine g_bipush (by decide) (fun v117 kv117 => ?_)
            refine g_imulk (n := 8) kv117 (by first | with_reducible assumption | omega) (fun v118 ev118 => ?_)
            refine g_iload_n rfl ?_
            refine g_iadd (by first | with_reducible assumption | omega) (fun v119 ev119 => ?_)
            refine g_iaload hI hb2 rfl (by first | with_reducible assumption | omega) (fun v120 ev120 lv120 uv120 => ?_)
            refine g_goto ?_
            exact g_iret ⟨_, rfl, rfl⟩
set_option maxRecDepth 4000 in
set_option maxHeartbeats 4000000 in
/-- X8.isTooSoon -/
theorem s_96 (w : Nat) (hw : zWo w) (b : Nat) (hb : zBo b) (a2 : Int32) (ha2 : 0 ≤ a2.toInt ∧ a2.toInt ≤ 39) (a3 : Int32) (a4 : Int32) (H : mzH) (hI : gI SX H) (hJ : JX H) : gCall 96 [.ref w, .ref b, .int a2, .int a3, .int a4] H (gRi (fun v H' => H = H' ∧ (0 ≤ v.toInt ∧ v.toInt ≤ 1))) := by
  obtain ⟨hwr, hw0, hw1, hw2, hw3, hw4, hw5, hw6⟩ := id hw
  obtain ⟨hbr, hb0, hb1, hb2, hb3, hb4, hb5, hb6, hb7⟩ := id hb
  refine gG_call [(0, .ref w), (1, .ref b), (2, .int a2), (3, .int a3), (4, .int a4)] ⟨rfl, rfl, rfl, rfl, rfl, trivial⟩ ?_
  show gG 6 zB_96 (mzBlk zB_96 0) [(0, .ref w), (1, .ref b), (2, .int a2), (3, .int a3), (4, .int a4)] [] H 0 0 _
  refine g_aload_n rfl ?_
  refine g_gfr hI hw0 rfl ?_
  refine g_iload_n rfl ?_
  refine g_iaload hI hw3 rfl (by first | with_reducible assumption | omega) (fun v57 ev57 lv57 uv57 => ?_)
  refine g_iload_n rfl ?_
  refine g_if2_ne (fun c58 => ?_) (fun c58 => ?_)
  · refine g_aload_n rfl ?_
    refine g_aload_n rfl ?_
    refine g_gfr hI hw0 rfl ?_
    refine g_iload_n rfl ?_
    refine g_ialoadk hI hw3 rfl (by first | with_reducible assumption | omega) ev57 ?_
    refine g_iload_n rfl ?_
    refine g_invvi hI hb0 rfl rfl rfl rfl (s_17 b hb v57 a3 H hI hJ) (fun v61 H59 r60 => ?_)
    obtain rfl := r60
    refine g_istore (l' := [(0, .ref w), (1, .ref b), (2, .int a2), (3, .int a3), (4, .int a4), (5, .int v61)]) rfl rfl ?_
    refine g_iload rfl ?_
    refine g_bipush (by decide) (fun v62 kv62 => ?_)
    refine g_if2_eq (fun c63 => ?_) (fun c63 => ?_)
    · refine g_iconst (by decide) (fun v64 kv64 => ?_)
      refine g_goto ?_
      exact g_zret (by first | with_reducible assumption | omega) ⟨_, rfl, rfl, (by first | with_reducible assumption | omega)⟩
    · refine g_iload rfl ?_
      refine g_aload_n rfl ?_
      refine g_gfr hI hw0 rfl ?_
      refine g_iload_n rfl ?_
      refine g_iaload hI hw4 rfl (by first | with_reducible assumption | omega) (fun v65 ev65 lv65 uv65 => ?_)
      refine g_isub' (fun v66 ov66 => ?_)
      refine g_iload rfl ?_
      refine g_if2_ge (fun c67 => ?_) (fun c67 => ?_)
      · refine g_iconst (by decide) (fun v68 kv68 => ?_)
        refine g_nop ?_
        exact g_zret (by first | with_reducible assumption | omega) ⟨_, rfl, rfl, (by first | with_reducible assumption | omega)⟩
      · refine g_nop ?_
        refine g_iconst (by decide) (fun v69 kv69 => ?_)
        refine g_goto ?_
        exact g_zret (by first | with_reducible assumption | omega) ⟨_, rfl, rfl, (by first | with_reducible assumption | omega)⟩
  · refine g_iconst (by decide) (fun v70 kv70 => ?_)
    exact g_zret (by first | with_reducible assumption | omega) ⟨_, rfl, rfl, (by first | with_reducible assumption | omega)⟩
set_option maxRecDepth 4000 in
set_option maxHeartbeats 4000000 in
/-- X8.objection -/
theorem s_94 (w : Nat) (hw : zWo w) (b : Nat) (hb : zBo b) (a2 : Int32) (ha2 : 0 ≤ a2.toInt ∧ a2.toInt ≤ 59) (a3 : Int32) (H : mzH) (hI : gI SX H) (hJ : JX H) : gCall 94 [.ref w, .ref b, .int a2, .int a3] H (gRi (fun v H' => H = H')) := by
  obtain ⟨hwr, hw0, hw1, hw2, hw3, hw4, hw5, hw6⟩ := id hw
  obtain ⟨hbr, hb0, hb1, hb2, hb3, hb4, hb5, hb6, hb7⟩ := id hb
  refine gG_call [(0, .ref w), (1, .ref b), (2, .int a2), (3, .int a3)] ⟨rfl, rfl, rfl, rfl, trivial⟩ ?_
  show gG 10 zB_94 (mzBlk zB_94 0) [(0, .ref w), (1, .ref b), (2, .int a2), (3, .int a3)] [] H 0 0 _
  refine g_aload_n rfl ?_
  refine g_gfr hI hb0 rfl ?_
  refine g_iload_n rfl ?_
  refine g_iaload hI hb4 rfl (by first | with_reducible assumption | omega) (fun v657 ev657 lv657 uv657 => ?_)
  refine g_istore (l' := [(0, .ref w), (1, .ref b), (2, .int a2), (3, .int a3), (4, .int v657)]) rfl rfl ?_
  refine g_aload_n rfl ?_
  refine g_gfr hI hb0 rfl ?_
  refine g_iload_n rfl ?_
  refine g_iaload hI hb5 rfl (by first | with_reducible assumption | omega) (fun v658 ev658 lv658 uv658 => ?_)
  refine g_istore (l' := [(0, .ref w), (1, .ref b), (2, .int a2), (3, .int a3), (4, .int v657), (5, .int v658)]) rfl rfl ?_
  refine g_iload rfl ?_
  refine g_if_ne (fun c659 => ?_) (fun c659 => ?_)
  · refine g_iload rfl ?_
    refine g_iconst (by decide) (fun v660 kv660 => ?_)
    refine g_if2_ne (fun c661 => ?_) (fun c661 => ?_)
    · refine g_iload rfl ?_
      refine g_nop ?_
      refine g_istore (l' := [(0, .ref w), (1, .ref b), (2, .int a2), (3, .int a3), (4, .int v657), (5, .int v658), (6, .int v658)]) rfl rfl ?_
      refine g_aload_n rfl ?_
      refine g_iload rfl ?_
      refine g_invvi hI hw0 rfl rfl rfl rfl (s_88 w hw v658 (by first | with_reducible assumption | omega) H hI hJ) (fun v664 H662 r663 => ?_)
      obtain ⟨rfl, bv664⟩ := r663
      refine g_if_eq (fun c665 => ?_) (fun c665 => ?_)
      · refine g_iconst (by decide) (fun v666 kv666 => ?_)
        exact g_iret ⟨_, rfl, rfl⟩
      · refine g_aload_n rfl ?_
        refine g_iload rfl ?_
        refine g_invvi hI hw0 rfl rfl rfl rfl (s_88 w hw v658 (by first | with_reducible assumption | omega) H hI hJ) (fun v669 H667 r668 => ?_)
        obtain ⟨rfl, bv669⟩ := r668
        refine g_if_ne (fun c670 => ?_) (fun c670 => ?_)
        · refine g_aload_n rfl ?_
          refine g_iload rfl ?_
          refine g_iconst (by decide) (fun v671 kv671 => ?_)
          refine g_invvi hI hw0 rfl rfl rfl rfl (s_85 w hw v658 (by first | with_reducible assumption | omega) v671 H hI hJ) (fun v674 H672 r673 => ?_)
          obtain ⟨rfl, bv674⟩ := r673
          refine g_if_ne (fun c675 => ?_) (fun c675 => ?_)
          · refine g_iconst (by decide) (fun v676 kv676 => ?_)
            exact g_iret ⟨_, rfl, rfl⟩
          · refine g_aload_n rfl ?_
            refine g_iload rfl ?_
            refine g_iconst (by decide) (fun v677 kv677 => ?_)
            refine g_invvi hI hw0 rfl rfl rfl rfl (s_85 w hw v658 (by first | with_reducible assumption | omega) v677 H hI hJ) (fun v680 H678 r679 => ?_)
            obtain ⟨rfl, bv680⟩ := r679
            refine g_if_eq (fun c681 => ?_) (fun c681 => ?_)
            · refine g_aload_n rfl ?_
              refine g_iload rfl ?_
              refine g_invvi hI hw0 rfl rfl rfl rfl (s_89 w hw v658 (by first | with_reducible assumption | omega) H hI hJ) (fun v684 H682 r683 => ?_)
              obtain ⟨rfl, bv684⟩ := r683
              refine g_istore (l' := [(0, .ref w), (1, .ref b), (2, .int a2), (3, .int a3), (4, .int v657), (5, .int v658), (6, .int v658), (7, .int v684)]) rfl rfl ?_
              refine g_aload_n rfl ?_
              refine g_iload rfl ?_
              refine g_iconst (by decide) (fun v685 kv685 => ?_)
              refine g_invvi hI hw0 rfl rfl rfl rfl (s_85 w hw v684 (by first | with_reducible assumption | omega) v685 H hI hJ) (fun v688 H686 r687 => ?_)
              obtain ⟨rfl, bv688⟩ := r687
              refine g_istore (l' := [(0, .ref w), (1, .ref b), (2, .int a2), (3, .int a3), (4, .int v657), (5, .int v658), (6, .int v658), (7, .int v684), (8, .int v688)]) rfl rfl ?_
              refine g_iload rfl ?_
              refine g_sw (by decide) (fun c689 => ?_) ⟨fun c689 => ?_, fun c689 => ?_, fun c689 => ?_, fun c689 => ?_, fun c689 => ?_, fun c689 => ?_, fun c689 => ?_, fun c689 => ?_, fun c689 => ?_, fun c689 => ?_, trivial⟩
              · refine g_iconst (by decide) (fun v690 kv690 => ?_)
                exact g_iret ⟨_, rfl, rfl⟩
              · refine g_aload_n rfl ?_
                refine g_aload_n rfl ?_
                refine g_iload rfl ?_
                refine g_iload rfl ?_
                refine g_invvi hI hw0 rfl rfl rfl rfl (s_95 w hw b hb v658 (by first | with_reducible assumption | omega) v658 (by first | with_reducible assumption | omega) H hI hJ) (fun v693 H691 r692 => ?_)
                obtain rfl := r692
                refine g_istore (l' := [(0, .ref w), (1, .ref b), (2, .int a2), (3, .int a3), (4, .int v657), (5, .int v658), (6, .int v658), (7, .int v684), (8, .int v688), (9, .int v693)]) rfl rfl ?_
                refine g_iload rfl ?_
                refine g_if_ne (fun c694 => ?_) (fun c694 => ?_)
                · refine g_iload rfl ?_
                  refine g_nop ?_
                  exact g_iret ⟨_, rfl, rfl⟩
                · refine g_aload_n rfl ?_
                  refine g_iload rfl ?_
                  refine g_invvi hI hw0 rfl rfl rfl rfl (s_97 w hw v658 H hI hJ) (fun v697 H695 r696 => ?_)
                  obtain ⟨rfl, bv697⟩ := r696
                  refine g_if_eq (fun c698 => ?_) (fun c698 => ?_)
                  · refine g_iload rfl ?_
                    refine g_nop ?_
                    exact g_iret ⟨_, rfl, rfl⟩
                  · refine g_bipush (by decide) (fun v699 kv699 => ?_)
                    refine g_goto ?_
                    exact g_iret ⟨_, rfl, rfl⟩
              · refine g_aload_n rfl ?_
                refine g_gfr hI hw0 rfl ?_
                refine g_iload rfl ?_
                refine g_iaload hI hw2 rfl (by first | with_reducible assumption | omega) (fun v700 ev700 lv700 uv700 => ?_)
                refine g_if_ge (fun c701 => ?_) (fun c701 => ?_)
                · refine g_iload rfl ?_
                  refine g_if_eq (fun c702 => ?_) (fun c702 => ?_)
                  · refine g_iconst (by decide) (fun v703 kv703 => ?_)
                    refine g_nop ?_
                    exact g_iret ⟨_, rfl, rfl⟩
                  · refine g_bipush (by decide) (fun v704 kv704 => ?_)
                    refine g_goto ?_
                    exact g_iret ⟨_, rfl, rfl⟩
                · refine g_iconst (by decide) (fun v705 kv705 => ?_)
                  refine g_goto ?_
                  exact g_iret ⟨_, rfl, rfl⟩
              · refine g_iload rfl ?_
                refine g_if_eq (fun c706 => ?_) (fun c706 => ?_)
                · refine g_aload_n rfl ?_
                  refine g_iload rfl ?_
                  refine g_iconst (by decide) (fun v707 kv707 => ?_)
                  refine g_invvi hI hw0 rfl rfl rfl rfl (s_85 w hw v658 (by first | with_reducible assumption | omega) v707 H hI hJ) (fun v710 H708 r709 => ?_)
                  obtain ⟨rfl, bv710⟩ := r709
                  refine g_if_ne (fun c711 => ?_) (fun c711 => ?_)
                  · refine g_bipush (by decide) (fun v712 kv712 => ?_)
                    refine g_goto ?_
                    exact g_iret ⟨_, rfl, rfl⟩
                  · refine g_aload_n rfl ?_
                    refine g_gfr hI hw0 rfl ?_
                    refine g_iload rfl ?_
                    refine g_iaload hI hw1 rfl (by first | with_reducible assumption | omega) (fun v713 ev713 lv713 uv713 => ?_)
                    refine g_if_ne (fun c714 => ?_) (fun c714 => ?_)
                    · refine g_iconst (by decide) (fun v715 kv715 => ?_)
                      refine g_nop ?_
                      exact g_iret ⟨_, rfl, rfl⟩
                    · refine g_nop ?_
                      refine g_bipush (by decide) (fun v716 kv716 => ?_)
                      refine g_goto ?_
                      exact g_iret ⟨_, rfl, rfl⟩
                · refine g_bipush (by decide) (fun v717 kv717 => ?_)
                  refine g_goto ?_
                  exact g_iret ⟨_, rfl, rfl⟩
              · refine g_iload rfl ?_
                refine g_if_eq (fun c718 => ?_) (fun c718 => ?_)
                · refine g_aload_n rfl ?_
                  refine g_iload rfl ?_
                  refine g_iconst (by decide) (fun v719 kv719 => ?_)
                  refine g_invvi hI hw0 rfl rfl rfl rfl (s_85 w hw v658 (by first | with_reducible assumption | omega) v719 H hI hJ) (fun v722 H720 r721 => ?_)
                  obtain ⟨rfl, bv722⟩ := r721
                  refine g_if_eq (fun c723 => ?_) (fun c723 => ?_)
                  · refine g_bipush (by decide) (fun v724 kv724 => ?_)
                    refine g_nop ?_
                    exact g_iret ⟨_, rfl, rfl⟩
                  · refine g_iconst (by decide) (fun v725 kv725 => ?_)
                    refine g_goto ?_
                    exact g_iret ⟨_, rfl, rfl⟩
                · refine g_bipush (by decide) (fun v726 kv726 => ?_)
                  refine g_goto ?_
                  exact g_iret ⟨_, rfl, rfl⟩
              · refine g_iload rfl ?_
                refine g_if_eq (fun c727 => ?_) (fun c727 => ?_)
                · refine g_aload_n rfl ?_
                  refine g_gfr hI hw0 rfl ?_
                  refine g_iload rfl ?_
                  refine g_iaload hI hw2 rfl (by first | with_reducible assumption | omega) (fun v728 ev728 lv728 uv728 => ?_)
                  refine g_if_lt (fun c729 => ?_) (fun c729 => ?_)
                  · refine g_aload_n rfl ?_
                    refine g_aload_n rfl ?_
                    refine g_iload rfl ?_
                    refine g_aload_n rfl ?_
                    refine g_gfr hI hb0 rfl ?_
                    refine g_iload_n rfl ?_
                    refine g_iaload hI hb6 rfl (by first | with_reducible assumption | omega) (fun v730 ev730 lv730 uv730 => ?_)
                    have jv730 : v657.toInt = 1 → 0 ≤ v730.toInt := by rw [ev657, ev730]; exact JX_use hJ hbr (by first | with_reducible assumption | omega)
                    refine g_iload_n rfl ?_
                    refine g_invvi hI hw0 rfl rfl rfl rfl (s_96 w hw b hb v684 (by first | with_reducible assumption | omega) v730 a3 H hI hJ) (fun v733 H731 r732 => ?_)
                    obtain ⟨rfl, bv733⟩ := r732
                    refine g_if_eq (fun c734 => ?_) (fun c734 => ?_)
                    · refine g_iconst (by decide) (fun v735 kv735 => ?_)
                      refine g_nop ?_
                      exact g_iret ⟨_, rfl, rfl⟩
                    · refine g_bipush (by decide) (fun v736 kv736 => ?_)
                      refine g_goto ?_
                      exact g_iret ⟨_, rfl, rfl⟩
                  · refine g_bipush (by decide) (fun v737 kv737 => ?_)
                    refine g_goto ?_
                    exact g_iret ⟨_, rfl, rfl⟩
                · refine g_bipush (by decide) (fun v738 kv738 => ?_)
                  refine g_goto ?_
                  exact g_iret ⟨_, rfl, rfl⟩
              · refine g_iload rfl ?_
                refine g_if_eq (fun c739 => ?_) (fun c739 => ?_)
                · refine g_aload_n rfl ?_
                  refine g_aload_n rfl ?_
                  refine g_iload rfl ?_
                  refine g_aload_n rfl ?_
                  refine g_gfr hI hb0 rfl ?_
                  refine g_iload_n rfl ?_
                  refine g_iaload hI hb6 rfl (by first | with_reducible assumption | omega) (fun v740 ev740 lv740 uv740 => ?_)
                  have jv740 : v657.toInt = 1 → 0 ≤ v740.toInt := by rw [ev657, ev740]; exact JX_use hJ hbr (by first | with_reducible assumption | omega)
                  refine g_iload_n rfl ?_
                  refine g_invvi hI hw0 rfl rfl rfl rfl (s_96 w hw b hb v684 (by first | with_reducible assumption | omega) v740 a3 H hI hJ) (fun v743 H741 r742 => ?_)
                  obtain ⟨rfl, bv743⟩ := r742
                  refine g_if_eq (fun c744 => ?_) (fun c744 => ?_)
                  · refine g_iconst (by decide) (fun v745 kv745 => ?_)
                    refine g_nop ?_
                    exact g_iret ⟨_, rfl, rfl⟩
                  · refine g_bipush (by decide) (fun v746 kv746 => ?_)
                    refine g_goto ?_
                    exact g_iret ⟨_, rfl, rfl⟩
                · refine g_bipush (by decide) (fun v747 kv747 => ?_)
                  refine g_goto ?_
                  exact g_iret ⟨_, rfl, rfl⟩
              · refine g_iload rfl ?_
                refine g_if_eq (fun c748 => ?_) (fun c748 => ?_)
                · refine g_aload_n rfl ?_
                  refine g_gfr hI hw0 rfl ?_
                  refine g_iload rfl ?_
                  refine g_iaload hI hw2 rfl (by first | with_reducible assumption | omega) (fun v749 ev749 lv749 uv749 => ?_)
                  refine g_if_lt (fun c750 => ?_) (fun c750 => ?_)
                  · refine g_aload_n rfl ?_
                    refine g_iload rfl ?_
                    refine g_invvi hI hw0 rfl rfl rfl rfl (s_97 w hw v658 H hI hJ) (fun v753 H751 r752 => ?_)
                    obtain ⟨rfl, bv753⟩ := r752
                    refine g_if_eq (fun c754 => ?_) (fun c754 => ?_)
                    · refine g_iconst (by decide) (fun v755 kv755 => ?_)
                      refine g_nop ?_
                      exact g_iret ⟨_, rfl, rfl⟩
                    · refine g_bipush (by decide) (fun v756 kv756 => ?_)
                      refine g_goto ?_
                      exact g_iret ⟨_, rfl, rfl⟩
                  · refine g_bipush (by decide) (fun v757 kv757 => ?_)
                    refine g_goto ?_
                    exact g_iret ⟨_, rfl, rfl⟩
                · refine g_bipush (by decide) (fun v758 kv758 => ?_)
                  refine g_goto ?_
                  exact g_iret ⟨_, rfl, rfl⟩
              · refine g_aload_n rfl ?_
                refine g_gfr hI hw0 rfl ?_
                refine g_iload rfl ?_
                refine g_iaload hI hw2 rfl (by first | with_reducible assumption | omega) (fun v759 ev759 lv759 uv759 => ?_)
                refine g_if_ge (fun c760 => ?_) (fun c760 => ?_)
                · refine g_bipush (by decide) (fun v761 kv761 => ?_)
                  refine g_goto ?_
                  exact g_iret ⟨_, rfl, rfl⟩
                · refine g_iload rfl ?_
                  refine g_if_ne (fun c762 => ?_) (fun c762 => ?_)
                  · refine g_iconst (by decide) (fun v763 kv763 => ?_)
                    refine g_nop ?_
                    exact g_iret ⟨_, rfl, rfl⟩
                  · refine g_nop ?_
                    refine g_bipush (by decide) (fun v764 kv764 => ?_)
                    refine g_goto ?_
                    exact g_iret ⟨_, rfl, rfl⟩
              · refine g_iconst (by decide) (fun v765 kv765 => ?_)
                exact g_iret ⟨_, rfl, rfl⟩
              · refine g_aload_n rfl ?_
                refine g_iload rfl ?_
                refine g_bipush (by decide) (fun v766 kv766 => ?_)
                refine g_invvi hI hw0 rfl rfl rfl rfl (s_85 w hw v658 (by first | with_reducible assumption | omega) v766 H hI hJ) (fun v769 H767 r768 => ?_)
                obtain ⟨rfl, bv769⟩ := r768
                refine g_if_eq (fun c770 => ?_) (fun c770 => ?_)
                · refine g_bipush (by decide) (fun v771 kv771 => ?_)
                  refine g_nop ?_
                  exact g_iret ⟨_, rfl, rfl⟩
                · refine g_iconst (by decide) (fun v772 kv772 => ?_)
                  refine g_goto ?_
                  exact g_iret ⟨_, rfl, rfl⟩
            · refine g_nop ?_
              refine g_iconst (by decide) (fun v773 kv773 => ?_)
              exact g_iret ⟨_, rfl, rfl⟩
        · refine g_nop ?_
          refine g_iconst (by decide) (fun v774 kv774 => ?_)
          exact g_iret ⟨_, rfl, rfl⟩
    · refine g_aload_n rfl ?_
      refine g_gfr hI hb0 rfl ?_
      refine g_iload_n rfl ?_
      refine g_iaload hI hb6 rfl (by first | with_reducible assumption | omega) (fun v775 ev775 lv775 uv775 => ?_)
      have jv775 : v657.toInt = 1 → 0 ≤ v775.toInt := by rw [ev657, ev775]; exact JX_use hJ hbr (by first | with_reducible assumption | omega)
      refine g_goto ?_
      refine g_istore (l' := [(0, .ref w), (1, .ref b), (2, .int a2), (3, .int a3), (4, .int v657), (5, .int v658), (6, .int v775)]) rfl rfl ?_
      refine g_aload_n rfl ?_
      refine g_iload rfl ?_
      refine g_invvi hI hw0 rfl rfl rfl rfl (s_88 w hw v658 (by first | with_reducible assumption | omega) H hI hJ) (fun v778 H776 r777 => ?_)
      obtain ⟨rfl, bv778⟩ := r777
      refine g_if_eq (fun c779 => ?_) (fun c779 => ?_)
      · refine g_iconst (by decide) (fun v780 kv780 => ?_)
        exact g_iret ⟨_, rfl, rfl⟩
      · refine g_aload_n rfl ?_
        refine g_iload rfl ?_
        refine g_invvi hI hw0 rfl rfl rfl rfl (s_88 w hw v775 (by first | with_reducible assumption | omega) H hI hJ) (fun v783 H781 r782 => ?_)
        obtain ⟨rfl, bv783⟩ := r782
        refine g_if_ne (fun c784 => ?_) (fun c784 => ?_)
        · refine g_aload_n rfl ?_
          refine g_iload rfl ?_
          refine g_iconst (by decide) (fun v785 kv785 => ?_)
          refine g_invvi hI hw0 rfl rfl rfl rfl (s_85 w hw v658 (by first | with_reducible assumption | omega) v785 H hI hJ) (fun v788 H786 r787 => ?_)
          obtain ⟨rfl, bv788⟩ := r787
          refine g_if_ne (fun c789 => ?_) (fun c789 => ?_)
          · refine g_iconst (by decide) (fun v790 kv790 => ?_)
            exact g_iret ⟨_, rfl, rfl⟩
          · refine g_aload_n rfl ?_
            refine g_iload rfl ?_
            refine g_iconst (by decide) (fun v791 kv791 => ?_)
            refine g_invvi hI hw0 rfl rfl rfl rfl (s_85 w hw v775 (by first | with_reducible assumption | omega) v791 H hI hJ) (fun v794 H792 r793 => ?_)
            obtain ⟨rfl, bv794⟩ := r793
            refine g_if_eq (fun c795 => ?_) (fun c795 => ?_)
            · refine g_aload_n rfl ?_
              refine g_iload rfl ?_
              refine g_invvi hI hw0 rfl rfl rfl rfl (s_89 w hw v658 (by first | with_reducible assumption | omega) H hI hJ) (fun v798 H796 r797 => ?_)
              obtain ⟨rfl, bv798⟩ := r797
              refine g_istore (l' := [(0, .ref w), (1, .ref b), (2, .int a2), (3, .int a3), (4, .int v657), (5, .int v658), (6, .int v775), (7, .int v798)]) rfl rfl ?_
              refine g_aload_n rfl ?_
              refine g_iload rfl ?_
              refine g_iconst (by decide) (fun v799 kv799 => ?_)
              refine g_invvi hI hw0 rfl rfl rfl rfl (s_85 w hw v798 (by first | with_reducible assumption | omega) v799 H hI hJ) (fun v802 H800 r801 => ?_)
              obtain ⟨rfl, bv802⟩ := r801
              refine g_istore (l' := [(0, .ref w), (1, .ref b), (2, .int a2), (3, .int a3), (4, .int v657), (5, .int v658), (6, .int v775), (7, .int v798), (8, .int v802)]) rfl rfl ?_
              refine g_iload rfl ?_
              refine g_sw (by decide) (fun c803 => ?_) ⟨fun c803 => ?_, fun c803 => ?_, fun c803 => ?_, fun c803 => ?_, fun c803 => ?_, fun c803 => ?_, fun c803 => ?_, fun c803 => ?_, fun c803 => ?_, fun c803 => ?_, trivial⟩
              · exfalso; omega
              · refine g_aload_n rfl ?_
                refine g_aload_n rfl ?_
                refine g_iload rfl ?_
                refine g_iload rfl ?_
                refine g_invvi hI hw0 rfl rfl rfl rfl (s_95 w hw b hb v658 (by first | with_reducible assumption | omega) v775 (by first | with_reducible assumption | omega) H hI hJ) (fun v806 H804 r805 => ?_)
                obtain rfl := r805
                refine g_istore (l' := [(0, .ref w), (1, .ref b), (2, .int a2), (3, .int a3), (4, .int v657), (5, .int v658), (6, .int v775), (7, .int v798), (8, .int v802), (9, .int v806)]) rfl rfl ?_
                refine g_iload rfl ?_
                refine g_if_ne (fun c807 => ?_) (fun c807 => ?_)
                · refine g_iload rfl ?_
                  refine g_nop ?_
                  exact g_iret ⟨_, rfl, rfl⟩
                · refine g_aload_n rfl ?_
                  refine g_iload rfl ?_
                  refine g_invvi hI hw0 rfl rfl rfl rfl (s_97 w hw v658 H hI hJ) (fun v810 H808 r809 => ?_)
                  obtain ⟨rfl, bv810⟩ := r809
                  refine g_if_eq (fun c811 => ?_) (fun c811 => ?_)
                  · refine g_iload rfl ?_
                    refine g_nop ?_
                    exact g_iret ⟨_, rfl, rfl⟩
                  · refine g_bipush (by decide) (fun v812 kv812 => ?_)
                    refine g_goto ?_
                    exact g_iret ⟨_, rfl, rfl⟩
              · exfalso; omega
              · exfalso; omega
              · exfalso; omega
              · exfalso; omega
              · exfalso; omega
              · exfalso; omega
              · exfalso; omega
              · exfalso; omega
              · exfalso; omega
            · refine g_nop ?_
              refine g_iconst (by decide) (fun v813 kv813 => ?_)
              exact g_iret ⟨_, rfl, rfl⟩
        · refine g_nop ?_
          refine g_iconst (by decide) (fun v814 kv814 => ?_)
          exact g_iret ⟨_, rfl, rfl⟩
  · refine g_aload_n rfl ?_
    refine g_iload rfl ?_
    refine g_invvi hI hw0 rfl rfl rfl rfl (s_88 w hw v658 (by first | with_reducible assumption | omega) H hI hJ) (fun v817 H815 r816 => ?_)
    obtain ⟨rfl, bv817⟩ := r816
    refine g_if_eq (fun c818 => ?_) (fun c818 => ?_)
    · refine g_iconst (by decide) (fun v819 kv819 => ?_)
      refine g_nop ?_
      exact g_iret ⟨_, rfl, rfl⟩
    · refine g_iconst (by decide) (fun v820 kv820 => ?_)
      refine g_goto ?_
      exact g_iret ⟨_, rfl, rfl⟩
set_option maxRecDepth 4000 in
set_option maxHeartbeats 4000000 in
/-- X8.stand -/
theorem s_99 (w : Nat) (hw : zWo w) (a1 : Int32) (ha1 : 0 ≤ a1.toInt ∧ a1.toInt ≤ 39) (a2 : Int32) (a3 : Int32) (H : mzH) (hI : gI SX H) (hJ : JX H) : gCall 99 [.ref w, .int a1, .int a2, .int a3] H (gRv (fun H' => gI SX H' ∧ JX H' ∧ fZ H' 1 1 = fZ H 1 1 ∧ kpX H H')) := by
  obtain ⟨hwr, hw0, hw1, hw2, hw3, hw4, hw5, hw6⟩ := id hw
  obtain ⟨k1_1, ek1_1⟩ : ∃ z, z = fZ H 1 1 := ⟨_, rfl⟩
  have ik1_1 : k1_1.toInt = (fZ H 1 1).toInt := by rw [← ek1_1]
  have bk1_1 : 0 ≤ k1_1.toInt ∧ k1_1.toInt ≤ 900 := by rw [ek1_1]; exact fZ_of hI sx_1 rfl
  have mkfr : kpX H H := kpX_r
  refine gG_call [(0, .ref w), (1, .int a1), (2, .int a2), (3, .int a3)] ⟨rfl, rfl, rfl, rfl, trivial⟩ ?_
  show gG 4 zB_99 (mzBlk zB_99 0) [(0, .ref w), (1, .int a1), (2, .int a2), (3, .int a3)] [] H 0 0 _
  refine g_aload_n rfl ?_
  refine g_gfr hI hw0 rfl ?_
  refine g_iload_n rfl ?_
  refine g_bipush (by decide) (fun v41 kv41 => ?_)
  refine g_iastore hI hw2 (by first | with_reducible assumption | omega) (by first | with_reducible assumption | omega) (fun H42 eH42 hIH42 => ?_)
  have hJH42 : JX H42 := JX_sA (by first | with_reducible assumption | omega) eH42 hJ
  have e43 : k1_1 = fZ H42 1 1 := by rw [eH42, fZ_sA]; exact ek1_1
  have m44 : kpX H H42 := kpX_A mkfr eH42 (by first | with_reducible assumption | omega)
  refine g_aload_n rfl ?_
  refine g_gfr hIH42 hw0 rfl ?_
  refine g_iload_n rfl ?_
  refine g_iload_n rfl ?_
  refine g_iastore hIH42 hw3 (by first | with_reducible assumption | omega) (gz_any _) (fun H45 eH45 hIH45 => ?_)
  have hJH45 : JX H45 := JX_sA (by first | with_reducible assumption | omega) eH45 hJH42
  have e46 : k1_1 = fZ H45 1 1 := by rw [eH45, fZ_sA]; exact e43
  have m47 : kpX H H45 := kpX_A m44 eH45 (by first | with_reducible assumption | omega)
  refine g_aload_n rfl ?_
  refine g_gfr hIH45 hw0 rfl ?_
  refine g_iload_n rfl ?_
  refine g_iload_n rfl ?_
  refine g_iastore hIH45 hw4 (by first | with_reducible assumption | omega) (gz_any _) (fun H48 eH48 hIH48 => ?_)
  have hJH48 : JX H48 := JX_sA (by first | with_reducible assumption | omega) eH48 hJH45
  have e49 : k1_1 = fZ H48 1 1 := by rw [eH48, fZ_sA]; exact e46
  have m50 : kpX H H48 := kpX_A m47 eH48 (by first | with_reducible assumption | omega)
  exact g_ret ⟨rfl, hIH48, hJH48, (e49.symm.trans ek1_1), m50⟩
set_option maxRecDepth 4000 in
set_option maxHeartbeats 4000000 in
/-- X8.mark -/
theorem s_86 (w : Nat) (hw : zWo w) (a1 : Int32) (ha1 : 0 ≤ a1.toInt ∧ a1.toInt ≤ 39) (a2 : Int32) (H : mzH) (hI : gI SX H) (hJ : JX H) : gCall 86 [.ref w, .int a1, .int a2] H (gRv (fun H' => gI SX H' ∧ JX H' ∧ fZ H' 1 1 = fZ H 1 1 ∧ kpX H H')) := by
  obtain ⟨hwr, hw0, hw1, hw2, hw3, hw4, hw5, hw6⟩ := id hw
  obtain ⟨k1_1, ek1_1⟩ : ∃ z, z = fZ H 1 1 := ⟨_, rfl⟩
  have ik1_1 : k1_1.toInt = (fZ H 1 1).toInt := by rw [← ek1_1]
  have bk1_1 : 0 ≤ k1_1.toInt ∧ k1_1.toInt ≤ 900 := by rw [ek1_1]; exact fZ_of hI sx_1 rfl
  have mkfr : kpX H H := kpX_r
  refine gG_call [(0, .ref w), (1, .int a1), (2, .int a2)] ⟨rfl, rfl, rfl, trivial⟩ ?_
  show gG 3 zB_86 (mzBlk zB_86 0) [(0, .ref w), (1, .int a1), (2, .int a2)] [] H 0 0 _
  refine g_aload_n rfl ?_
  refine g_gfr hI hw0 rfl ?_
  refine g_iload_n rfl ?_
  refine g_dup2 rfl ?_
  refine g_iaload hI hw6 rfl (by first | with_reducible assumption | omega) (fun v21 ev21 lv21 uv21 => ?_)
  refine g_iload_n rfl ?_
  refine g_ior' (fun v22 ov22 => ?_)
  refine g_iastore hI hw6 (by first | with_reducible assumption | omega) (gz_any _) (fun H23 eH23 hIH23 => ?_)
  have hJH23 : JX H23 := JX_sA (by first | with_reducible assumption | omega) eH23 hJ
  have e24 : k1_1 = fZ H23 1 1 := by rw [eH23, fZ_sA]; exact ek1_1
  have m25 : kpX H H23 := kpX_A mkfr eH23 (by first | with_reducible assumption | omega)
  exact g_ret ⟨rfl, hIH23, hJH23, (e24.symm.trans ek1_1), m25⟩
set_option maxRecDepth 4000 in
set_option maxHeartbeats 4000000 in
/-- X8.openAround -/
theorem s_100 (w : Nat) (hw : zWo w) (a1 : Int32) (ha1 : 0 ≤ a1.toInt ∧ a1.toInt ≤ 39) (H : mzH) (hI : gI SX H) (hJ : JX H) : gCall 100 [.ref w, .int a1] H (gRv (fun H' => gI SX H' ∧ JX H' ∧ fZ H' 1 1 = fZ H 1 1 ∧ kpX H H')) := by
  obtain ⟨hwr, hw0, hw1, hw2, hw3, hw4, hw5, hw6⟩ := id hw
  obtain ⟨k1_1, ek1_1⟩ : ∃ z, z = fZ H 1 1 := ⟨_, rfl⟩
  have ik1_1 : k1_1.toInt = (fZ H 1 1).toInt := by rw [← ek1_1]
  have bk1_1 : 0 ≤ k1_1.toInt ∧ k1_1.toInt ≤ 900 := by rw [ek1_1]; exact fZ_of hI sx_1 rfl
  have mkfr : kpX H H := kpX_r
  refine gG_call [(0, .ref w), (1, .int a1)] ⟨rfl, rfl, trivial⟩ ?_
  show gG 2 zB_100 (mzBlk zB_100 0) [(0, .ref w), (1, .int a1)] [] H 0 0 _
  refine g_aload_n rfl ?_
  refine g_gfr hI hw0 rfl ?_
  refine g_iload_n rfl ?_
  refine g_iaload hI hw2 rfl (by first | with_reducible assumption | omega) (fun v37 ev37 lv37 uv37 => ?_)
  refine g_if_lt (fun c38 => ?_) (fun c38 => ?_)
  · exact g_ret ⟨rfl, hI, hJ, (ek1_1.symm.trans ek1_1), mkfr⟩
  · refine g_aload_n rfl ?_
    refine g_aload_n rfl ?_
    refine g_gfr hI hw0 rfl ?_
    refine g_iload_n rfl ?_
    refine g_ialoadk hI hw2 rfl (by first | with_reducible assumption | omega) ev37 ?_
    refine g_iconst (by decide) (fun v39 kv39 => ?_)
    refine g_invvv hI hw0 rfl rfl rfl rfl (s_86 w hw v37 (by first | with_reducible assumption | omega) v39 H hI hJ) (fun H40 r41 => ?_)
    obtain ⟨hIH40, hJH40, w42, m43⟩ := r41
    have e44 : k1_1 = fZ H40 1 1 := ek1_1.trans w42.symm
    have m45 : kpX H H40 := kpX_t mkfr m43
    refine g_nop ?_
    exact g_ret ⟨rfl, hIH40, hJH40, (e44.symm.trans ek1_1), m45⟩
set_option maxRecDepth 4000 in
set_option maxHeartbeats 4000000 in
/-- X8.unmark -/
theorem s_87 (w : Nat) (hw : zWo w) (a1 : Int32) (ha1 : 0 ≤ a1.toInt ∧ a1.toInt ≤ 39) (a2 : Int32) (H : mzH) (hI : gI SX H) (hJ : JX H) : gCall 87 [.ref w, .int a1, .int a2] H (gRv (fun H' => gI SX H' ∧ JX H' ∧ fZ H' 1 1 = fZ H 1 1 ∧ kpX H H')) := by
  obtain ⟨hwr, hw0, hw1, hw2, hw3, hw4, hw5, hw6⟩ := id hw
  obtain ⟨k1_1, ek1_1⟩ : ∃ z, z = fZ H 1 1 := ⟨_, rfl⟩
  have ik1_1 : k1_1.toInt = (fZ H 1 1).toInt := by rw [← ek1_1]
  have bk1_1 : 0 ≤ k1_1.toInt ∧ k1_1.toInt ≤ 900 := by rw [ek1_1]; exact fZ_of hI sx_1 rfl
  have mkfr : kpX H H := kpX_r
  refine gG_call [(0, .ref w), (1, .int a1), (2, .int a2)] ⟨rfl, rfl, rfl, trivial⟩ ?_
  show gG 3 zB_87 (mzBlk zB_87 0) [(0, .ref w), (1, .int a1), (2, .int a2)] [] H 0 0 _
  refine g_aload_n rfl ?_
  refine g_gfr hI hw0 rfl ?_
  refine g_iload_n rfl ?_
  refine g_dup2 rfl ?_
  refine g_iaload hI hw6 rfl (by first | with_reducible assumption | omega) (fun v29 ev29 lv29 uv29 => ?_)
  refine g_iload_n rfl ?_
  refine g_iconst (by decide) (fun v30 kv30 => ?_)
  refine g_ixor' (fun v31 ov31 => ?_)
  refine g_iand' (fun v32 _ => ?_)
  refine g_iastore hI hw6 (by first | with_reducible assumption | omega) (gz_any _) (fun H33 eH33 hIH33 => ?_)
  have hJH33 : JX H33 := JX_sA (by first | with_reducible assumption | omega) eH33 hJ
  have e34 : k1_1 = fZ H33 1 1 := by rw [eH33, fZ_sA]; exact ek1_1
  have m35 : kpX H H33 := kpX_A mkfr eH33 (by first | with_reducible assumption | omega)
  exact g_ret ⟨rfl, hIH33, hJH33, (e34.symm.trans ek1_1), m35⟩
set_option maxRecDepth 4000 in
set_option maxHeartbeats 4000000 in
/-- X8.looseWith -/
theorem s_101 (w : Nat) (hw : zWo w) (a1 : Int32) (ha1 : 0 ≤ a1.toInt ∧ a1.toInt ≤ 39) (H : mzH) (hI : gI SX H) (hJ : JX H) : gCall 101 [.ref w, .int a1] H (gRi (fun v H' => H = H' ∧ (0 ≤ v.toInt ∧ v.toInt ≤ 39))) := by
  obtain ⟨hwr, hw0, hw1, hw2, hw3, hw4, hw5, hw6⟩ := id hw
  refine gG_call [(0, .ref w), (1, .int a1)] ⟨rfl, rfl, trivial⟩ ?_
  show gG 4 zB_101 (mzBlk zB_101 0) [(0, .ref w), (1, .int a1)] [] H 0 0 _
  refine g_iload_n rfl ?_
  refine g_istore_n (l' := [(0, .ref w), (1, .int a1), (2, .int a1)]) rfl rfl ?_
  refine g_iconst (by decide) (fun v83 kv83 => ?_)
  refine g_istore_n (l' := [(0, .ref w), (1, .int a1), (2, .int a1), (3, .int v83)]) rfl rfl ?_
  refine g_nop ?_
  have L86 : ∀ (N : Nat) (v84 : Int32) (v85 : Int32), (0 ≤ v84.toInt ∧ v84.toInt ≤ 39) → (0 ≤ v85.toInt ∧ v85.toInt ≤ 2) → (2 - v85.toInt).toNat < N → gG 4 zB_101 (mzBlk zB_101 1) [(0, .ref w), (1, .int a1), (2, .int v84), (3, .int v85)] [] H 0 0 (gRi (fun v H' => H = H' ∧ (0 ≤ v.toInt ∧ v.toInt ≤ 39))) := by
    intro N
    induction N with
    | zero => intro v84 v85 bv84 bv85 hmL86; exact absurd hmL86 (Nat.not_lt_zero _)
    | succ N ihL86 =>
      intro v84 v85 bv84 bv85 hmL86
      refine g_iload_n rfl ?_
      refine g_iconst (by decide) (fun v87 kv87 => ?_)
      refine g_if2_ge (fun c88 => ?_) (fun c88 => ?_)
      · refine g_iload_n rfl ?_
        exact g_iret ⟨_, rfl, rfl, (by first | with_reducible assumption | omega)⟩
      · refine g_aload_n rfl ?_
        refine g_gfr hI hw0 rfl ?_
        refine g_iload_n rfl ?_
        refine g_iaload hI hw2 rfl (by first | with_reducible assumption | omega) (fun v89 ev89 lv89 uv89 => ?_)
        refine g_if_lt (fun c90 => ?_) (fun c90 => ?_)
        · refine g_iload_n rfl ?_
          exact g_iret ⟨_, rfl, rfl, (by first | with_reducible assumption | omega)⟩
        · refine g_aload_n rfl ?_
          refine g_aload_n rfl ?_
          refine g_gfr hI hw0 rfl ?_
          refine g_iload_n rfl ?_
          refine g_ialoadk hI hw2 rfl (by first | with_reducible assumption | omega) ev89 ?_
          refine g_iconst (by decide) (fun v91 kv91 => ?_)
          refine g_invvi hI hw0 rfl rfl rfl rfl (s_85 w hw v89 (by first | with_reducible assumption | omega) v91 H hI hJ) (fun v94 H92 r93 => ?_)
          obtain ⟨rfl, bv94⟩ := r93
          refine g_if_eq (fun c95 => ?_) (fun c95 => ?_)
          · refine g_aload_n rfl ?_
            refine g_gfr hI hw0 rfl ?_
            refine g_iload_n rfl ?_
            refine g_ialoadk hI hw2 rfl (by first | with_reducible assumption | omega) ev89 ?_
            refine g_istore_n (l' := [(0, .ref w), (1, .int a1), (2, .int v89), (3, .int v85)]) rfl rfl ?_
            refine g_iinc (l' := (fun v96 => [(0, .ref w), (1, .int a1), (2, .int v89), (3, .int v96)])) rfl rfl (by decide) (by first | with_reducible assumption | omega) (fun _ => rfl) (fun v96 ev96 => ?_)
            refine g_goto ?_
            exact ihL86 v89 v96 (by first | with_reducible assumption | omega) (by first | with_reducible assumption | omega) (by first | with_reducible assumption | omega)
          · refine g_iload_n rfl ?_
            exact g_iret ⟨_, rfl, rfl, (by first | with_reducible assumption | omega)⟩
  exact L86 _ a1 v83 (by first | with_reducible assumption | omega) (by first | with_reducible assumption | omega) (Nat.lt_succ_self _)
set_option maxRecDepth 4000 in
set_option maxHeartbeats 4000000 in
/-- X8.endWithAllIn -/
theorem s_102 (w : Nat) (hw : zWo w) (a1 : Int32) (H : mzH) (hI : gI SX H) (hJ : JX H) : gCall 102 [.ref w, .int a1] H (gRv (fun H' => gI SX H' ∧ JX H' ∧ fZ H' 1 1 = fZ H 1 1 ∧ kpX H H')) := by
  obtain ⟨hwr, hw0, hw1, hw2, hw3, hw4, hw5, hw6⟩ := id hw
  obtain ⟨k1_1, ek1_1⟩ : ∃ z, z = fZ H 1 1 := ⟨_, rfl⟩
  have ik1_1 : k1_1.toInt = (fZ H 1 1).toInt := by rw [← ek1_1]
  have bk1_1 : 0 ≤ k1_1.toInt ∧ k1_1.toInt ≤ 900 := by rw [ek1_1]; exact fZ_of hI sx_1 rfl
  have mkfr : kpX H H := kpX_r
  refine gG_call [(0, .ref w), (1, .int a1)] ⟨rfl, rfl, trivial⟩ ?_
  show gG 3 zB_102 (mzBlk zB_102 0) [(0, .ref w), (1, .int a1)] [] H 0 0 _
  refine g_iconst (by decide) (fun v537 kv537 => ?_)
  refine g_istore_n (l' := [(0, .ref w), (1, .int a1), (2, .int v537)]) rfl rfl ?_
  refine g_nop ?_
  have L542 : ∀ (N : Nat) (v538 : Int32) (H539 : mzH), gI SX H539 → JX H539 → k1_1 = fZ H539 1 1 → kpX H H539 → (0 ≤ v538.toInt ∧ v538.toInt ≤ 40) → (40 - v538.toInt).toNat < N → gG 3 zB_102 (mzBlk zB_102 1) [(0, .ref w), (1, .int a1), (2, .int v538)] [] H539 0 0 (gRv (fun H' => gI SX H' ∧ JX H' ∧ fZ H' 1 1 = fZ H 1 1 ∧ kpX H H')) := by
    intro N
    induction N with
    | zero => intro v538 H539 hIH539 hJH539 e540 m541 bv538 hmL542; exact absurd hmL542 (Nat.not_lt_zero _)
    | succ N ihL542 =>
      intro v538 H539 hIH539 hJH539 e540 m541 bv538 hmL542
      refine g_iload_n rfl ?_
      refine g_bipush (by decide) (fun v543 kv543 => ?_)
      refine g_if2_ge (fun c544 => ?_) (fun c544 => ?_)
      · refine g_iconst (by decide) (fun v545 kv545 => ?_)
        refine g_istore_n (l' := [(0, .ref w), (1, .int a1), (2, .int v545)]) rfl rfl ?_
        refine g_nop ?_
        have L550 : ∀ (N : Nat) (v546 : Int32) (H547 : mzH), gI SX H547 → JX H547 → k1_1 = fZ H547 1 1 → kpX H H547 → (0 ≤ v546.toInt ∧ v546.toInt ≤ 40) → (40 - v546.toInt).toNat < N → gG 3 zB_102 (mzBlk zB_102 5) [(0, .ref w), (1, .int a1), (2, .int v546)] [] H547 0 0 (gRv (fun H' => gI SX H' ∧ JX H' ∧ fZ H' 1 1 = fZ H 1 1 ∧ kpX H H')) := by
          intro N
          induction N with
          | zero => intro v546 H547 hIH547 hJH547 e548 m549 bv546 hmL550; exact absurd hmL550 (Nat.not_lt_zero _)
          | succ N ihL550 =>
            intro v546 H547 hIH547 hJH547 e548 m549 bv546 hmL550
            refine g_iload_n rfl ?_
            refine g_bipush (by decide) (fun v551 kv551 => ?_)
            refine g_if2_ge (fun c552 => ?_) (fun c552 => ?_)
            · exact g_ret ⟨rfl, hIH547, hJH547, (e548.symm.trans ek1_1), m549⟩
            · refine g_aload_n rfl ?_
              refine g_iload_n rfl ?_
              refine g_iconst (by decide) (fun v553 kv553 => ?_)
              refine g_invvi hIH547 hw0 rfl rfl rfl rfl (s_85 w hw v546 (by first | with_reducible assumption | omega) v553 H547 hIH547 hJH547) (fun v556 H554 r555 => ?_)
              obtain ⟨rfl, bv556⟩ := r555
              refine g_if_eq (fun c557 => ?_) (fun c557 => ?_)
              · refine g_iinc (l' := (fun v558 => [(0, .ref w), (1, .int a1), (2, .int v558)])) rfl rfl (by decide) (by first | with_reducible assumption | omega) (fun _ => rfl) (fun v558 ev558 => ?_)
                refine g_goto ?_
                exact ihL550 v558 H547 hIH547 hJH547 e548 m549 (by first | with_reducible assumption | omega) (by first | with_reducible assumption | omega)
              · refine g_aload_n rfl ?_
                refine g_gfr hIH547 hw0 rfl ?_
                refine g_iload_n rfl ?_
                refine g_bipush (by decide) (fun v559 kv559 => ?_)
                refine g_iastore hIH547 hw2 (by first | with_reducible assumption | omega) (by first | with_reducible assumption | omega) (fun H560 eH560 hIH560 => ?_)
                have hJH560 : JX H560 := JX_sA (by first | with_reducible assumption | omega) eH560 hJH547
                have e561 : k1_1 = fZ H560 1 1 := by rw [eH560, fZ_sA]; exact e548
                have m562 : kpX H H560 := kpX_A m549 eH560 (by first | with_reducible assumption | omega)
                refine g_aload_n rfl ?_
                refine g_iload_n rfl ?_
                refine g_bipush (by decide) (fun v563 kv563 => ?_)
                refine g_invvv hIH560 hw0 rfl rfl rfl rfl (s_87 w hw v546 (by first | with_reducible assumption | omega) v563 H560 hIH560 hJH560) (fun H564 r565 => ?_)
                obtain ⟨hIH564, hJH564, w566, m567⟩ := r565
                have e568 : k1_1 = fZ H564 1 1 := e561.trans w566.symm
                have m569 : kpX H H564 := kpX_t m562 m567
                refine g_nop ?_
                refine g_iinc (l' := (fun v570 => [(0, .ref w), (1, .int a1), (2, .int v570)])) rfl rfl (by decide) (by first | with_reducible assumption | omega) (fun _ => rfl) (fun v570 ev570 => ?_)
                refine g_goto ?_
                exact ihL550 v570 H564 hIH564 hJH564 e568 m569 (by first | with_reducible assumption | omega) (by first | with_reducible assumption | omega)
        exact L550 _ v545 H539 hIH539 hJH539 e540 m541 (by first | with_reducible assumption | omega) (Nat.lt_succ_self _)
      · refine g_iload_n rfl ?_
        refine g_iload_n rfl ?_
        refine g_if2_eq (fun c571 => ?_) (fun c571 => ?_)
        · refine g_aload_n rfl ?_
          refine g_iload_n rfl ?_
          refine g_iconst (by decide) (fun v572 kv572 => ?_)
          refine g_invvv hIH539 hw0 rfl rfl rfl rfl (s_86 w hw v538 (by first | with_reducible assumption | omega) v572 H539 hIH539 hJH539) (fun H573 r574 => ?_)
          obtain ⟨hIH573, hJH573, w575, m576⟩ := r574
          have e577 : k1_1 = fZ H573 1 1 := e540.trans w575.symm
          have m578 : kpX H H573 := kpX_t m541 m576
          refine g_nop ?_
          refine g_iinc (l' := (fun v579 => [(0, .ref w), (1, .int a1), (2, .int v579)])) rfl rfl (by decide) (by first | with_reducible assumption | omega) (fun _ => rfl) (fun v579 ev579 => ?_)
          refine g_goto ?_
          exact ihL542 v579 H573 hIH573 hJH573 e577 m578 (by first | with_reducible assumption | omega) (by first | with_reducible assumption | omega)
        · refine g_aload_n rfl ?_
          refine g_iload_n rfl ?_
          refine g_iload_n rfl ?_
          refine g_invvi hIH539 hw0 rfl rfl rfl rfl (s_90 w hw v538 (by first | with_reducible assumption | omega) a1 H539 hIH539 hJH539) (fun v582 H580 r581 => ?_)
          obtain ⟨rfl, bv582⟩ := r581
          refine g_if_eq (fun c583 => ?_) (fun c583 => ?_)
          · refine g_iinc (l' := (fun v584 => [(0, .ref w), (1, .int a1), (2, .int v584)])) rfl rfl (by decide) (by first | with_reducible assumption | omega) (fun _ => rfl) (fun v584 ev584 => ?_)
            refine g_goto ?_
            exact ihL542 v584 H539 hIH539 hJH539 e540 m541 (by first | with_reducible assumption | omega) (by first | with_reducible assumption | omega)
          · refine g_nop ?_
            refine g_aload_n rfl ?_
            refine g_iload_n rfl ?_
            refine g_iconst (by decide) (fun v585 kv585 => ?_)
            refine g_invvv hIH539 hw0 rfl rfl rfl rfl (s_86 w hw v538 (by first | with_reducible assumption | omega) v585 H539 hIH539 hJH539) (fun H586 r587 => ?_)
            obtain ⟨hIH586, hJH586, w588, m589⟩ := r587
            have e590 : k1_1 = fZ H586 1 1 := e540.trans w588.symm
            have m591 : kpX H H586 := kpX_t m541 m589
            refine g_nop ?_
            refine g_iinc (l' := (fun v592 => [(0, .ref w), (1, .int a1), (2, .int v592)])) rfl rfl (by decide) (by first | with_reducible assumption | omega) (fun _ => rfl) (fun v592 ev592 => ?_)
            refine g_goto ?_
            exact ihL542 v592 H586 hIH586 hJH586 e590 m591 (by first | with_reducible assumption | omega) (by first | with_reducible assumption | omega)
  exact L542 _ v537 H hI hJ ek1_1 mkfr (by first | with_reducible assumption | omega) (Nat.lt_succ_self _)
set_option maxRecDepth 4000 in
set_option maxHeartbeats 4000000 in
/-- X8.carryOut -/
theorem s_98 (w : Nat) (hw : zWo w) (b : Nat) (hb : zBo b) (a2 : Int32) (ha2 : 0 ≤ a2.toInt ∧ a2.toInt ≤ 59) (a3 : Int32) (H : mzH) (hI : gI SX H) (hJ : JX H) : gCall 98 [.ref w, .ref b, .int a2, .int a3] H (gRv (fun H' => gI SX H' ∧ JX H' ∧ fZ H' 1 1 = fZ H 1 1 ∧ kpX H H')) := by
  obtain ⟨hwr, hw0, hw1, hw2, hw3, hw4, hw5, hw6⟩ := id hw
  obtain ⟨hbr, hb0, hb1, hb2, hb3, hb4, hb5, hb6, hb7⟩ := id hb
  obtain ⟨k1_1, ek1_1⟩ : ∃ z, z = fZ H 1 1 := ⟨_, rfl⟩
  have ik1_1 : k1_1.toInt = (fZ H 1 1).toInt := by rw [← ek1_1]
  have bk1_1 : 0 ≤ k1_1.toInt ∧ k1_1.toInt ≤ 900 := by rw [ek1_1]; exact fZ_of hI sx_1 rfl
  have mkfr : kpX H H := kpX_r
  refine gG_call [(0, .ref w), (1, .ref b), (2, .int a2), (3, .int a3)] ⟨rfl, rfl, rfl, rfl, trivial⟩ ?_
  show gG 7 zB_98 (mzBlk zB_98 0) [(0, .ref w), (1, .ref b), (2, .int a2), (3, .int a3)] [] H 0 0 _
  refine g_aload_n rfl ?_
  refine g_gfr hI hb0 rfl ?_
  refine g_iload_n rfl ?_
  refine g_iaload hI hb5 rfl (by first | with_reducible assumption | omega) (fun v449 ev449 lv449 uv449 => ?_)
  refine g_istore (l' := [(0, .ref w), (1, .ref b), (2, .int a2), (3, .int a3), (4, .int v449)]) rfl rfl ?_
  refine g_aload_n rfl ?_
  refine g_gfr hI hb0 rfl ?_
  refine g_iload_n rfl ?_
  refine g_iaload hI hb6 rfl (by first | with_reducible assumption | omega) (fun v450 ev450 lv450 uv450 => ?_)
  refine g_istore (l' := [(0, .ref w), (1, .ref b), (2, .int a2), (3, .int a3), (4, .int v449), (5, .int v450)]) rfl rfl ?_
  refine g_aload_n rfl ?_
  refine g_iload rfl ?_
  refine g_invvi hI hw0 rfl rfl rfl rfl (s_89 w hw v449 (by first | with_reducible assumption | omega) H hI hJ) (fun v453 H451 r452 => ?_)
  obtain ⟨rfl, bv453⟩ := r452
  refine g_istore (l' := [(0, .ref w), (1, .ref b), (2, .int a2), (3, .int a3), (4, .int v449), (5, .int v450), (6, .int v453)]) rfl rfl ?_
  refine g_aload_n rfl ?_
  refine g_gfr hI hb0 rfl ?_
  refine g_iload_n rfl ?_
  refine g_iaload hI hb4 rfl (by first | with_reducible assumption | omega) (fun v454 ev454 lv454 uv454 => ?_)
  refine g_sw (by decide) (fun c455 => ?_) ⟨fun c455 => ?_, fun c455 => ?_, fun c455 => ?_, fun c455 => ?_, fun c455 => ?_, fun c455 => ?_, fun c455 => ?_, fun c455 => ?_, fun c455 => ?_, fun c455 => ?_, trivial⟩
  · refine g_aload_n rfl ?_
    refine g_iload rfl ?_
    refine g_bipush (by decide) (fun v456 kv456 => ?_)
    refine g_invvv hI hw0 rfl rfl rfl rfl (s_87 w hw v449 (by first | with_reducible assumption | omega) v456 H hI hJ) (fun H457 r458 => ?_)
    obtain ⟨hIH457, hJH457, w459, m460⟩ := r458
    have e461 : k1_1 = fZ H457 1 1 := ek1_1.trans w459.symm
    have m462 : kpX H H457 := kpX_t mkfr m460
    refine g_nop ?_
    exact g_ret ⟨rfl, hIH457, hJH457, (e461.symm.trans ek1_1), m462⟩
  · refine g_aload_n rfl ?_
    refine g_gfr hI hw0 rfl ?_
    refine g_iload rfl ?_
    refine g_aload_n rfl ?_
    refine g_gfr hI hb0 rfl ?_
    refine g_iload_n rfl ?_
    refine g_iaload hI hb7 rfl (by first | with_reducible assumption | omega) (fun v463 ev463 lv463 uv463 => ?_)
    refine g_iastore hI hw1 (by first | with_reducible assumption | omega) (gz_any _) (fun H464 eH464 hIH464 => ?_)
    have hJH464 : JX H464 := JX_sA (by first | with_reducible assumption | omega) eH464 hJ
    have e465 : k1_1 = fZ H464 1 1 := by rw [eH464, fZ_sA]; exact ek1_1
    have m466 : kpX H H464 := kpX_A mkfr eH464 (by first | with_reducible assumption | omega)
    refine g_aload_n rfl ?_
    refine g_iload rfl ?_
    refine g_iload rfl ?_
    refine g_iload_n rfl ?_
    refine g_invvv hIH464 hw0 rfl rfl rfl rfl (s_99 w hw v449 (by first | with_reducible assumption | omega) v450 a3 H464 hIH464 hJH464) (fun H467 r468 => ?_)
    obtain ⟨hIH467, hJH467, w469, m470⟩ := r468
    have e471 : k1_1 = fZ H467 1 1 := e465.trans w469.symm
    have m472 : kpX H H467 := kpX_t m466 m470
    refine g_goto ?_
    exact g_ret ⟨rfl, hIH467, hJH467, (e471.symm.trans ek1_1), m472⟩
  · refine g_aload_n rfl ?_
    refine g_gfr hI hw0 rfl ?_
    refine g_iload rfl ?_
    refine g_iload rfl ?_
    refine g_iastore hI hw2 (by first | with_reducible assumption | omega) (by first | with_reducible assumption | omega) (fun H473 eH473 hIH473 => ?_)
    have hJH473 : JX H473 := JX_sA (by first | with_reducible assumption | omega) eH473 hJ
    have e474 : k1_1 = fZ H473 1 1 := by rw [eH473, fZ_sA]; exact ek1_1
    have m475 : kpX H H473 := kpX_A mkfr eH473 (by first | with_reducible assumption | omega)
    refine g_goto ?_
    exact g_ret ⟨rfl, hIH473, hJH473, (e474.symm.trans ek1_1), m475⟩
  · refine g_aload_n rfl ?_
    refine g_iload rfl ?_
    refine g_invvv hI hw0 rfl rfl rfl rfl (s_100 w hw v449 (by first | with_reducible assumption | omega) H hI hJ) (fun H476 r477 => ?_)
    obtain ⟨hIH476, hJH476, w478, m479⟩ := r477
    have e480 : k1_1 = fZ H476 1 1 := ek1_1.trans w478.symm
    have m481 : kpX H H476 := kpX_t mkfr m479
    refine g_aload_n rfl ?_
    refine g_iload rfl ?_
    refine g_aload_n rfl ?_
    refine g_gfr hIH476 hw0 rfl ?_
    refine g_iload rfl ?_
    refine g_iaload hIH476 hw3 rfl (by first | with_reducible assumption | omega) (fun v482 ev482 lv482 uv482 => ?_)
    refine g_iload_n rfl ?_
    refine g_invvv hIH476 hw0 rfl rfl rfl rfl (s_99 w hw v449 (by first | with_reducible assumption | omega) v482 a3 H476 hIH476 hJH476) (fun H483 r484 => ?_)
    obtain ⟨hIH483, hJH483, w485, m486⟩ := r484
    have e487 : k1_1 = fZ H483 1 1 := e480.trans w485.symm
    have m488 : kpX H H483 := kpX_t m481 m486
    refine g_goto ?_
    exact g_ret ⟨rfl, hIH483, hJH483, (e487.symm.trans ek1_1), m488⟩
  · refine g_aload_n rfl ?_
    refine g_iload rfl ?_
    refine g_iconst (by decide) (fun v489 kv489 => ?_)
    refine g_invvv hI hw0 rfl rfl rfl rfl (s_86 w hw v449 (by first | with_reducible assumption | omega) v489 H hI hJ) (fun H490 r491 => ?_)
    obtain ⟨hIH490, hJH490, w492, m493⟩ := r491
    have e494 : k1_1 = fZ H490 1 1 := ek1_1.trans w492.symm
    have m495 : kpX H H490 := kpX_t mkfr m493
    refine g_goto ?_
    exact g_ret ⟨rfl, hIH490, hJH490, (e494.symm.trans ek1_1), m495⟩
  · refine g_aload_n rfl ?_
    refine g_iload rfl ?_
    refine g_iconst (by decide) (fun v496 kv496 => ?_)
    refine g_invvv hI hw0 rfl rfl rfl rfl (s_87 w hw v449 (by first | with_reducible assumption | omega) v496 H hI hJ) (fun H497 r498 => ?_)
    obtain ⟨hIH497, hJH497, w499, m500⟩ := r498
    have e501 : k1_1 = fZ H497 1 1 := ek1_1.trans w499.symm
    have m502 : kpX H H497 := kpX_t mkfr m500
    refine g_goto ?_
    exact g_ret ⟨rfl, hIH497, hJH497, (e501.symm.trans ek1_1), m502⟩
  · refine g_aload_n rfl ?_
    refine g_iload rfl ?_
    refine g_iload rfl ?_
    refine g_iload_n rfl ?_
    refine g_invvv hI hw0 rfl rfl rfl rfl (s_99 w hw v449 (by first | with_reducible assumption | omega) v450 a3 H hI hJ) (fun H503 r504 => ?_)
    obtain ⟨hIH503, hJH503, w505, m506⟩ := r504
    have e507 : k1_1 = fZ H503 1 1 := ek1_1.trans w505.symm
    have m508 : kpX H H503 := kpX_t mkfr m506
    refine g_goto ?_
    exact g_ret ⟨rfl, hIH503, hJH503, (e507.symm.trans ek1_1), m508⟩
  · refine g_aload_n rfl ?_
    refine g_gfr hI hw0 rfl ?_
    refine g_iload rfl ?_
    refine g_iload_n rfl ?_
    refine g_iastore hI hw5 (by first | with_reducible assumption | omega) (gz_any _) (fun H509 eH509 hIH509 => ?_)
    have hJH509 : JX H509 := JX_sA (by first | with_reducible assumption | omega) eH509 hJ
    have e510 : k1_1 = fZ H509 1 1 := by rw [eH509, fZ_sA]; exact ek1_1
    have m511 : kpX H H509 := kpX_A mkfr eH509 (by first | with_reducible assumption | omega)
    refine g_aload_n rfl ?_
    refine g_aload_n rfl ?_
    refine g_gfr hIH509 hw0 rfl ?_
    refine g_iload rfl ?_
    refine g_iaload hIH509 hw3 rfl (by first | with_reducible assumption | omega) (fun v512 ev512 lv512 uv512 => ?_)
    refine g_iload rfl ?_
    refine g_if2_ne (fun c513 => ?_) (fun c513 => ?_)
    · refine g_aload_n rfl ?_
      refine g_iload rfl ?_
      refine g_invvi hIH509 hw0 rfl rfl rfl rfl (s_101 w hw v449 (by first | with_reducible assumption | omega) H509 hIH509 hJH509) (fun v516 H514 r515 => ?_)
      obtain ⟨rfl, bv516⟩ := r515
      refine g_nop ?_
      refine g_iload rfl ?_
      refine g_iload_n rfl ?_
      refine g_invvv hIH509 hw0 rfl rfl rfl rfl (s_99 w hw v516 (by first | with_reducible assumption | omega) v450 a3 H509 hIH509 hJH509) (fun H517 r518 => ?_)
      obtain ⟨hIH517, hJH517, w519, m520⟩ := r518
      have e521 : k1_1 = fZ H517 1 1 := e510.trans w519.symm
      have m522 : kpX H H517 := kpX_t m511 m520
      refine g_goto ?_
      exact g_ret ⟨rfl, hIH517, hJH517, (e521.symm.trans ek1_1), m522⟩
    · refine g_iload rfl ?_
      refine g_goto ?_
      refine g_iload rfl ?_
      refine g_iload_n rfl ?_
      refine g_invvv hIH509 hw0 rfl rfl rfl rfl (s_99 w hw v453 (by first | with_reducible assumption | omega) v450 a3 H509 hIH509 hJH509) (fun H523 r524 => ?_)
      obtain ⟨hIH523, hJH523, w525, m526⟩ := r524
      have e527 : k1_1 = fZ H523 1 1 := e510.trans w525.symm
      have m528 : kpX H H523 := kpX_t m511 m526
      refine g_goto ?_
      exact g_ret ⟨rfl, hIH523, hJH523, (e527.symm.trans ek1_1), m528⟩
  · refine g_aload_n rfl ?_
    refine g_iload rfl ?_
    refine g_iconst (by decide) (fun v529 kv529 => ?_)
    refine g_invvv hI hw0 rfl rfl rfl rfl (s_86 w hw v449 (by first | with_reducible assumption | omega) v529 H hI hJ) (fun H530 r531 => ?_)
    obtain ⟨hIH530, hJH530, w532, m533⟩ := r531
    have e534 : k1_1 = fZ H530 1 1 := ek1_1.trans w532.symm
    have m535 : kpX H H530 := kpX_t mkfr m533
    refine g_goto ?_
    exact g_ret ⟨rfl, hIH530, hJH530, (e534.symm.trans ek1_1), m535⟩
  · refine g_aload_n rfl ?_
    refine g_iload rfl ?_
    refine g_iconst (by decide) (fun v536 kv536 => ?_)
    refine g_invvv hI hw0 rfl rfl rfl rfl (s_87 w hw v449 (by first | with_reducible assumption | omega) v536 H hI hJ) (fun H537 r538 => ?_)
    obtain ⟨hIH537, hJH537, w539, m540⟩ := r538
    have e541 : k1_1 = fZ H537 1 1 := ek1_1.trans w539.symm
    have m542 : kpX H H537 := kpX_t mkfr m540
    refine g_aload_n rfl ?_
    refine g_iload rfl ?_
    refine g_iload rfl ?_
    refine g_iload_n rfl ?_
    refine g_invvv hIH537 hw0 rfl rfl rfl rfl (s_99 w hw v449 (by first | with_reducible assumption | omega) v450 a3 H537 hIH537 hJH537) (fun H543 r544 => ?_)
    obtain ⟨hIH543, hJH543, w545, m546⟩ := r544
    have e547 : k1_1 = fZ H543 1 1 := e541.trans w545.symm
    have m548 : kpX H H543 := kpX_t m542 m546
    refine g_goto ?_
    exact g_ret ⟨rfl, hIH543, hJH543, (e547.symm.trans ek1_1), m548⟩
  · refine g_aload_n rfl ?_
    refine g_iload rfl ?_
    refine g_invvv hI hw0 rfl rfl rfl rfl (s_100 w hw v449 (by first | with_reducible assumption | omega) H hI hJ) (fun H549 r550 => ?_)
    obtain ⟨hIH549, hJH549, w551, m552⟩ := r550
    have e553 : k1_1 = fZ H549 1 1 := ek1_1.trans w551.symm
    have m554 : kpX H H549 := kpX_t mkfr m552
    refine g_aload_n rfl ?_
    refine g_iload rfl ?_
    refine g_invvv hIH549 hw0 rfl rfl rfl rfl (s_102 w hw v449 H549 hIH549 hJH549) (fun H555 r556 => ?_)
    obtain ⟨hIH555, hJH555, w557, m558⟩ := r556
    have e559 : k1_1 = fZ H555 1 1 := e553.trans w557.symm
    have m560 : kpX H H555 := kpX_t m554 m558
    refine g_goto ?_
    exact g_ret ⟨rfl, hIH555, hJH555, (e559.symm.trans ek1_1), m560⟩
set_option maxRecDepth 4000 in
set_option maxHeartbeats 4000000 in
/-- X8.look -/
theorem s_93 (w : Nat) (hw : zWo w) (b : Nat) (hb : zBo b) (a2 : Int32) (ha2 : 0 ≤ a2.toInt ∧ a2.toInt ≤ 59) (a3 : Int32) (H : mzH) (hI : gI SX H) (hJ : JX H) : gCall 93 [.ref w, .ref b, .int a2, .int a3] H (gRi (fun v H' => gI SX H' ∧ JX H' ∧ fZ H' 1 1 = fZ H 1 1 ∧ kpX H H')) := by
  obtain ⟨hwr, hw0, hw1, hw2, hw3, hw4, hw5, hw6⟩ := id hw
  obtain ⟨hbr, hb0, hb1, hb2, hb3, hb4, hb5, hb6, hb7⟩ := id hb
  obtain ⟨k1_1, ek1_1⟩ : ∃ z, z = fZ H 1 1 := ⟨_, rfl⟩
  have ik1_1 : k1_1.toInt = (fZ H 1 1).toInt := by rw [← ek1_1]
  have bk1_1 : 0 ≤ k1_1.toInt ∧ k1_1.toInt ≤ 900 := by rw [ek1_1]; exact fZ_of hI sx_1 rfl
  have mkfr : kpX H H := kpX_r
  refine gG_call [(0, .ref w), (1, .ref b), (2, .int a2), (3, .int a3)] ⟨rfl, rfl, rfl, rfl, trivial⟩ ?_
  show gG 7 zB_93 (mzBlk zB_93 0) [(0, .ref w), (1, .ref b), (2, .int a2), (3, .int a3)] [] H 0 0 _
  refine g_aload_n rfl ?_
  refine g_aload_n rfl ?_
  refine g_iload_n rfl ?_
  refine g_iload_n rfl ?_
  refine g_invvi hI hw0 rfl rfl rfl rfl (s_94 w hw b hb a2 (by first | with_reducible assumption | omega) a3 H hI hJ) (fun v191 H189 r190 => ?_)
  obtain rfl := r190
  refine g_istore (l' := [(0, .ref w), (1, .ref b), (2, .int a2), (3, .int a3), (4, .int v191)]) rfl rfl ?_
  refine g_aload_n rfl ?_
  refine g_gfr hI hb0 rfl ?_
  refine g_iload_n rfl ?_
  refine g_iaload hI hb5 rfl (by first | with_reducible assumption | omega) (fun v192 ev192 lv192 uv192 => ?_)
  refine g_istore (l' := [(0, .ref w), (1, .ref b), (2, .int a2), (3, .int a3), (4, .int v191), (5, .int v192)]) rfl rfl ?_
  refine g_aload_n rfl ?_
  refine g_gfr hI hb0 rfl ?_
  refine g_iload_n rfl ?_
  refine g_iaload hI hb4 rfl (by first | with_reducible assumption | omega) (fun v193 ev193 lv193 uv193 => ?_)
  refine g_istore (l' := [(0, .ref w), (1, .ref b), (2, .int a2), (3, .int a3), (4, .int v191), (5, .int v192), (6, .int v193)]) rfl rfl ?_
  refine g_iload rfl ?_
  refine g_if_ne (fun c194 => ?_) (fun c194 => ?_)
  · refine g_iload rfl ?_
    refine g_if_ne (fun c195 => ?_) (fun c195 => ?_)
    · refine g_iload rfl ?_
      refine g_bipush (by decide) (fun v196 kv196 => ?_)
      refine g_if2_ne (fun c197 => ?_) (fun c197 => ?_)
      · refine g_iload rfl ?_
        exact g_iret ⟨_, rfl, hI, hJ, (ek1_1.symm.trans ek1_1), mkfr⟩
      · refine g_iload rfl ?_
        refine g_bipush (by decide) (fun v198 kv198 => ?_)
        refine g_if2_eq (fun c199 => ?_) (fun c199 => ?_)
        · refine g_aload_n rfl ?_
          refine g_iload rfl ?_
          refine g_bipush (by decide) (fun v200 kv200 => ?_)
          refine g_invvv hI hw0 rfl rfl rfl rfl (s_86 w hw v192 (by first | with_reducible assumption | omega) v200 H hI hJ) (fun H201 r202 => ?_)
          obtain ⟨hIH201, hJH201, w203, m204⟩ := r202
          have e205 : k1_1 = fZ H201 1 1 := ek1_1.trans w203.symm
          have m206 : kpX H H201 := kpX_t mkfr m204
          refine g_nop ?_
          refine g_iload rfl ?_
          exact g_iret ⟨_, rfl, hIH201, hJH201, (e205.symm.trans ek1_1), m206⟩
        · refine g_iload rfl ?_
          refine g_bipush (by decide) (fun v207 kv207 => ?_)
          refine g_if2_ne (fun c208 => ?_) (fun c208 => ?_)
          · refine g_iload rfl ?_
            exact g_iret ⟨_, rfl, hI, hJ, (ek1_1.symm.trans ek1_1), mkfr⟩
          · refine g_nop ?_
            refine g_aload_n rfl ?_
            refine g_iload rfl ?_
            refine g_bipush (by decide) (fun v209 kv209 => ?_)
            refine g_invvv hI hw0 rfl rfl rfl rfl (s_86 w hw v192 (by first | with_reducible assumption | omega) v209 H hI hJ) (fun H210 r211 => ?_)
            obtain ⟨hIH210, hJH210, w212, m213⟩ := r211
            have e214 : k1_1 = fZ H210 1 1 := ek1_1.trans w212.symm
            have m215 : kpX H H210 := kpX_t mkfr m213
            refine g_nop ?_
            refine g_iload rfl ?_
            exact g_iret ⟨_, rfl, hIH210, hJH210, (e214.symm.trans ek1_1), m215⟩
    · refine g_aload_n rfl ?_
      refine g_iload rfl ?_
      refine g_iconst (by decide) (fun v216 kv216 => ?_)
      refine g_invvi hI hw0 rfl rfl rfl rfl (s_85 w hw v192 (by first | with_reducible assumption | omega) v216 H hI hJ) (fun v219 H217 r218 => ?_)
      obtain ⟨rfl, bv219⟩ := r218
      refine g_if_ne (fun c220 => ?_) (fun c220 => ?_)
      · refine g_iload rfl ?_
        refine g_bipush (by decide) (fun v221 kv221 => ?_)
        refine g_if2_ne (fun c222 => ?_) (fun c222 => ?_)
        · refine g_iload rfl ?_
          exact g_iret ⟨_, rfl, hI, hJ, (ek1_1.symm.trans ek1_1), mkfr⟩
        · exfalso; omega
      · refine g_aload_n rfl ?_
        refine g_iload rfl ?_
        refine g_bipush (by decide) (fun v223 kv223 => ?_)
        refine g_invvv hI hw0 rfl rfl rfl rfl (s_86 w hw v192 (by first | with_reducible assumption | omega) v223 H hI hJ) (fun H224 r225 => ?_)
        obtain ⟨hIH224, hJH224, w226, m227⟩ := r225
        have e228 : k1_1 = fZ H224 1 1 := ek1_1.trans w226.symm
        have m229 : kpX H H224 := kpX_t mkfr m227
        refine g_goto ?_
        refine g_iload rfl ?_
        exact g_iret ⟨_, rfl, hIH224, hJH224, (e228.symm.trans ek1_1), m229⟩
  · refine g_aload_n rfl ?_
    refine g_aload_n rfl ?_
    refine g_iload_n rfl ?_
    refine g_iload_n rfl ?_
    refine g_invvv hI hw0 rfl rfl rfl rfl (s_98 w hw b hb a2 (by first | with_reducible assumption | omega) a3 H hI hJ) (fun H230 r231 => ?_)
    obtain ⟨hIH230, hJH230, w232, m233⟩ := r231
    have e234 : k1_1 = fZ H230 1 1 := ek1_1.trans w232.symm
    have m235 : kpX H H230 := kpX_t mkfr m233
    refine g_goto ?_
    refine g_iload rfl ?_
    exact g_iret ⟨_, rfl, hIH230, hJH230, (e234.symm.trans ek1_1), m235⟩
set_option maxRecDepth 4000 in
set_option maxHeartbeats 4000000 in
/-- X0.refusedBehind -/
theorem s_6 (a1 : Int32) (ha1 : 0 ≤ a1.toInt ∧ a1.toInt ≤ 59) (a2 : Int32) (a3 : Int32) (H : mzH) (hI : gI SX H) (hJ : JX H) : gCall 6 [.ref 54, .int a1, .int a2, .int a3] H (gRi (fun v H' => gI SX H' ∧ JX H' ∧ fZ H' 1 1 = fZ H 1 1 ∧ kpX H H')) := by
  obtain ⟨k1_1, ek1_1⟩ : ∃ z, z = fZ H 1 1 := ⟨_, rfl⟩
  have ik1_1 : k1_1.toInt = (fZ H 1 1).toInt := by rw [← ek1_1]
  have bk1_1 : 0 ≤ k1_1.toInt ∧ k1_1.toInt ≤ 900 := by rw [ek1_1]; exact fZ_of hI sx_1 rfl
  have mkfr : kpX H H := kpX_r
  refine gG_call [(0, .ref 54), (1, .int a1), (2, .int a2), (3, .int a3)] ⟨rfl, rfl, rfl, rfl, trivial⟩ ?_
  show gG 6 zB_6 (mzBlk zB_6 0) [(0, .ref 54), (1, .int a1), (2, .int a2), (3, .int a3)] [] H 0 0 _
  refine g_iload_n rfl ?_
  refine g_istore (l' := [(0, .ref 54), (1, .int a1), (2, .int a2), (3, .int a3), (4, .int a2)]) rfl rfl ?_
  refine g_iload_n rfl ?_
  refine g_iconst (by decide) (fun v109 kv109 => ?_)
  refine g_iadd (by first | with_reducible assumption | omega) (fun v110 ev110 => ?_)
  refine g_istore (l' := [(0, .ref 54), (1, .int a1), (2, .int a2), (3, .int a3), (4, .int a2), (5, .int v110)]) rfl rfl ?_
  refine g_nop ?_
  have L116 : ∀ (N : Nat) (v111 : Int32) (v112 : Int32) (H113 : mzH), gI SX H113 → JX H113 → k1_1 = fZ H113 1 1 → kpX H H113 → (1 ≤ v112.toInt ∧ v112.toInt ≤ 60) → (60 - v112.toInt).toNat < N → gG 6 zB_6 (mzBlk zB_6 1) [(0, .ref 54), (1, .int a1), (2, .int a2), (3, .int a3), (4, .int v111), (5, .int v112)] [] H113 0 0 (gRi (fun v H' => gI SX H' ∧ JX H' ∧ fZ H' 1 1 = fZ H 1 1 ∧ kpX H H')) := by
    intro N
    induction N with
    | zero => intro v111 v112 H113 hIH113 hJH113 e114 m115 bv112 hmL116; exact absurd hmL116 (Nat.not_lt_zero _)
    | succ N ihL116 =>
      intro v111 v112 H113 hIH113 hJH113 e114 m115 bv112 hmL116
      refine g_iload rfl ?_
      refine g_aload_n rfl ?_
      refine g_gfr hIH113 sx_54 rfl ?_
      refine g_gfi hIH113 sx_25 rfl (fun v117 ev117 lv117 uv117 => ?_)
      refine g_if2_ge (fun c118 => ?_) (fun c118 => ?_)
      · refine g_iload rfl ?_
        exact g_iret ⟨_, rfl, hIH113, hJH113, (e114.symm.trans ek1_1), m115⟩
      · refine g_iload rfl ?_
        refine g_iload_n rfl ?_
        refine g_if2_gt (fun c119 => ?_) (fun c119 => ?_)
        · refine g_iload rfl ?_
          exact g_iret ⟨_, rfl, hIH113, hJH113, (e114.symm.trans ek1_1), m115⟩
        · refine g_iload rfl ?_
          refine g_aload_n rfl ?_
          refine g_gfr hIH113 sx_54 rfl ?_
          refine g_aload_n rfl ?_
          refine g_gfr hIH113 sx_54 rfl ?_
          refine g_aload_n rfl ?_
          refine g_gfr hIH113 sx_54 rfl ?_
          refine g_gfr hIH113 sx_25 rfl ?_
          refine g_iload rfl ?_
          refine g_iaload hIH113 sx_27 rfl (by first | with_reducible assumption | omega) (fun v120 ev120 lv120 uv120 => ?_)
          refine g_aload_n rfl ?_
          refine g_gfr hIH113 sx_54 rfl ?_
          refine g_iload rfl ?_
          refine g_invvi hIH113 sx_25 rfl rfl rfl rfl (s_27 25 zCo_25 v112 (by first | with_reducible assumption | omega) H113 hIH113 hJH113) (fun v123 H121 r122 => ?_)
          obtain rfl := r122
          refine g_invvi hIH113 sx_69 rfl rfl rfl rfl (s_93 69 zWo_69 3 zBo_3 v120 (by first | with_reducible assumption | omega) v123 H113 hIH113 hJH113) (fun v126 H124 r125 => ?_)
          obtain ⟨hIH124, hJH124, w127, m128⟩ := r125
          have e129 : k1_1 = fZ H124 1 1 := e114.trans w127.symm
          have m130 : kpX H H124 := kpX_t m115 m128
          refine g_if_eq (fun c131 => ?_) (fun c131 => ?_)
          · refine g_iconst (by decide) (fun v132 kv132 => ?_)
            refine g_nop ?_
            refine g_iadd (by have := gz_any v111; omega) (fun v133 ev133 => ?_)
            refine g_istore (l' := [(0, .ref 54), (1, .int a1), (2, .int a2), (3, .int a3), (4, .int v133), (5, .int v112)]) rfl rfl ?_
            refine g_iinc (l' := (fun v134 => [(0, .ref 54), (1, .int a1), (2, .int a2), (3, .int a3), (4, .int v133), (5, .int v134)])) rfl rfl (by decide) (by first | with_reducible assumption | omega) (fun _ => rfl) (fun v134 ev134 => ?_)
            refine g_goto ?_
            exact ihL116 v133 v134 H124 hIH124 hJH124 e129 m130 (by first | with_reducible assumption | omega) (by first | with_reducible assumption | omega)
          · refine g_iconst (by decide) (fun v135 kv135 => ?_)
            refine g_goto ?_
            refine g_iadd' (fun v136 ov136 => ?_)
            refine g_istore (l' := [(0, .ref 54), (1, .int a1), (2, .int a2), (3, .int a3), (4, .int v136), (5, .int v112)]) rfl rfl ?_
            refine g_iinc (l' := (fun v137 => [(0, .ref 54), (1, .int a1), (2, .int a2), (3, .int a3), (4, .int v136), (5, .int v137)])) rfl rfl (by decide) (by first | with_reducible assumption | omega) (fun _ => rfl) (fun v137 ev137 => ?_)
            refine g_goto ?_
            exact ihL116 v136 v137 H124 hIH124 hJH124 e129 m130 (by first | with_reducible assumption | omega) (by first | with_reducible assumption | omega)
  exact L116 _ a2 v110 H hI hJ ek1_1 mkfr (by first | with_reducible assumption | omega) (Nat.lt_succ_self _)
set_option maxRecDepth 4000 in
set_option maxHeartbeats 4000000 in
/-- X0.refusalAt -/
theorem s_7 (a1 : Int32) (ha1 : 0 ≤ a1.toInt ∧ a1.toInt ≤ 59) (w : Nat) (hw : zWo w) (H : mzH) (hI : gI SX H) (hJ : JX H) : gCall 7 [.ref 54, .int a1, .ref w] H (gRi (fun v H' => gI SX H' ∧ JX H' ∧ (0 ≤ v.toInt ∧ v.toInt ≤ 1) ∧ fZ H' 1 1 = fZ H 1 1 ∧ kpX H H')) := by
  obtain ⟨hwr, hw0, hw1, hw2, hw3, hw4, hw5, hw6⟩ := id hw
  obtain ⟨k1_1, ek1_1⟩ : ∃ z, z = fZ H 1 1 := ⟨_, rfl⟩
  have ik1_1 : k1_1.toInt = (fZ H 1 1).toInt := by rw [← ek1_1]
  have bk1_1 : 0 ≤ k1_1.toInt ∧ k1_1.toInt ≤ 900 := by rw [ek1_1]; exact fZ_of hI sx_1 rfl
  have mkfr : kpX H H := kpX_r
  refine gG_call [(0, .ref 54), (1, .int a1), (2, .ref w)] ⟨rfl, rfl, rfl, trivial⟩ ?_
  show gG 3 zB_7 (mzBlk zB_7 0) [(0, .ref 54), (1, .int a1), (2, .ref w)] [] H 0 0 _
  refine g_aload_n rfl ?_
  refine g_aload_n rfl ?_
  refine g_gfr hI sx_54 rfl ?_
  refine g_aload_n rfl ?_
  refine g_gfr hI sx_54 rfl ?_
  refine g_gfr hI sx_25 rfl ?_
  refine g_iload_n rfl ?_
  refine g_iaload hI sx_27 rfl (by first | with_reducible assumption | omega) (fun v57 ev57 lv57 uv57 => ?_)
  refine g_aload_n rfl ?_
  refine g_gfr hI sx_54 rfl ?_
  refine g_iload_n rfl ?_
  refine g_invvi hI sx_25 rfl rfl rfl rfl (s_27 25 zCo_25 a1 (by first | with_reducible assumption | omega) H hI hJ) (fun v60 H58 r59 => ?_)
  obtain rfl := r59
  refine g_invvi hI hw0 rfl rfl rfl rfl (s_93 w hw 3 zBo_3 v57 (by first | with_reducible assumption | omega) v60 H hI hJ) (fun v63 H61 r62 => ?_)
  obtain ⟨hIH61, hJH61, w64, m65⟩ := r62
  have e66 : k1_1 = fZ H61 1 1 := ek1_1.trans w64.symm
  have m67 : kpX H H61 := kpX_t mkfr m65
  refine g_if_eq (fun c68 => ?_) (fun c68 => ?_)
  · refine g_iconst (by decide) (fun v69 kv69 => ?_)
    refine g_nop ?_
    exact g_iret ⟨_, rfl, hIH61, hJH61, (by first | with_reducible assumption | omega), (e66.symm.trans ek1_1), m67⟩
  · refine g_iconst (by decide) (fun v70 kv70 => ?_)
    refine g_goto ?_
    exact g_iret ⟨_, rfl, hIH61, hJH61, (by first | with_reducible assumption | omega), (e66.symm.trans ek1_1), m67⟩
set_option maxRecDepth 4000 in
set_option maxHeartbeats 4000000 in
/-- X0.findOne -/
theorem s_2 (H : mzH) (hI : gI SX H) (hJ : JX H) : gCall 2 [.ref 54] H (gRv (fun H' => gI SX H' ∧ JX H' ∧ fZ H' 1 1 = fZ H 1 1 ∧ kpX H H')) := by
  obtain ⟨k1_1, ek1_1⟩ : ∃ z, z = fZ H 1 1 := ⟨_, rfl⟩
  have ik1_1 : k1_1.toInt = (fZ H 1 1).toInt := by rw [← ek1_1]
  have bk1_1 : 0 ≤ k1_1.toInt ∧ k1_1.toInt ≤ 900 := by rw [ek1_1]; exact fZ_of hI sx_1 rfl
  have mkfr : kpX H H := kpX_r
  refine gG_call [(0, .ref 54)] ⟨rfl, trivial⟩ ?_
  show gG 5 zB_2 (mzBlk zB_2 0) [(0, .ref 54)] [] H 0 0 _
  refine g_aload_n rfl ?_
  refine g_gfi hI sx_54 rfl (fun v1963 ev1963 lv1963 uv1963 => ?_)
  refine g_if_eq (fun c1964 => ?_) (fun c1964 => ?_)
  · refine g_aload_n rfl ?_
    refine g_iconst (by decide) (fun v1965 kv1965 => ?_)
    refine g_pfz hI sx_54 rfl (by first | with_reducible assumption | omega) (fun H1966 eH1966 hIH1966 => ?_)
    have hJH1966 : JX H1966 := JX_sF eH1966 hJ
    have e1967 : k1_1 = fZ H1966 1 1 := by rw [eH1966, fZ_sF_nc (by first | with_reducible assumption | omega)]; exact ek1_1
    have m1968 : kpX H H1966 := kpX_F mkfr eH1966 (by first | with_reducible assumption | omega)
    refine g_aload_n rfl ?_
    refine g_bipush (by decide) (fun v1969 kv1969 => ?_)
    refine g_pfi hIH1966 sx_54 rfl (gz_any _) (fun H1970 eH1970 hIH1970 => ?_)
    have hJH1970 : JX H1970 := JX_sF eH1970 hJH1966
    have e1971 : k1_1 = fZ H1970 1 1 := by rw [eH1970, fZ_sF_nc (by first | with_reducible assumption | omega)]; exact e1967
    have m1972 : kpX H H1970 := kpX_F m1968 eH1970 (by first | with_reducible assumption | omega)
    refine g_aload_n rfl ?_
    refine g_gfr hIH1970 sx_54 rfl ?_
    refine g_invvv hIH1970 sx_55 rfl rfl rfl rfl (s_83 55 zWo_55 H1970 hIH1970 hJH1970) (fun H1973 r1974 => ?_)
    obtain ⟨hIH1973, hJH1973, w1975, m1976⟩ := r1974
    have e1977 : k1_1 = fZ H1973 1 1 := e1971.trans w1975.symm
    have m1978 : kpX H H1973 := kpX_t m1972 m1976
    refine g_iconst (by decide) (fun v1979 kv1979 => ?_)
    refine g_istore_n (l' := [(0, .ref 54), (1, .int v1979)]) rfl rfl ?_
    refine g_iconst (by decide) (fun v1980 kv1980 => ?_)
    refine g_istore_n (l' := [(0, .ref 54), (1, .int v1979), (2, .int v1980)]) rfl rfl ?_
    refine g_nop ?_
    have L1986 : ∀ (N : Nat) (v1981 : Int32) (v1982 : Int32) (H1983 : mzH), gI SX H1983 → JX H1983 → k1_1 = fZ H1983 1 1 → kpX H H1983 → (0 ≤ v1982.toInt ∧ v1982.toInt ≤ 60) → (60 - v1982.toInt).toNat < N → gG 5 zB_2 (mzBlk zB_2 2) [(0, .ref 54), (1, .int v1981), (2, .int v1982)] [] H1983 0 0 (gRv (fun H' => gI SX H' ∧ JX H' ∧ fZ H' 1 1 = fZ H 1 1 ∧ kpX H H')) := by
      intro N
      induction N with
      | zero => intro v1981 v1982 H1983 hIH1983 hJH1983 e1984 m1985 bv1982 hmL1986; exact absurd hmL1986 (Nat.not_lt_zero _)
      | succ N ihL1986 =>
        intro v1981 v1982 H1983 hIH1983 hJH1983 e1984 m1985 bv1982 hmL1986
        refine g_iload_n rfl ?_
        refine g_aload_n rfl ?_
        refine g_gfr hIH1983 sx_54 rfl ?_
        refine g_gfi hIH1983 sx_25 rfl (fun v1987 ev1987 lv1987 uv1987 => ?_)
        refine g_if2_ge (fun c1988 => ?_) (fun c1988 => ?_)
        · exact g_ret ⟨rfl, hIH1983, hJH1983, (e1984.symm.trans ek1_1), m1985⟩
        · refine g_aload_n rfl ?_
          refine g_gfr hIH1983 sx_54 rfl ?_
          refine g_aload_n rfl ?_
          refine g_gfr hIH1983 sx_54 rfl ?_
          refine g_invvv hIH1983 sx_69 rfl rfl rfl rfl (s_84 69 zWo_69 55 zWo_55 H1983 hIH1983 hJH1983) (fun H1989 r1990 => ?_)
          obtain ⟨hIH1989, hJH1989, w1991, m1992⟩ := r1990
          have e1993 : k1_1 = fZ H1989 1 1 := e1984.trans w1991.symm
          have m1994 : kpX H H1989 := kpX_t m1985 m1992
          refine g_aload_n rfl ?_
          refine g_gfr hIH1989 sx_54 rfl ?_
          refine g_gfr hIH1989 sx_25 rfl ?_
          refine g_iload_n rfl ?_
          refine g_iaload hIH1989 sx_27 rfl (by first | with_reducible assumption | omega) (fun v1995 ev1995 lv1995 uv1995 => ?_)
          refine g_istore_n (l' := [(0, .ref 54), (1, .int v1981), (2, .int v1982), (3, .int v1995)]) rfl rfl ?_
          refine g_aload_n rfl ?_
          refine g_iload_n rfl ?_
          refine g_iload_n rfl ?_
          refine g_aload_n rfl ?_
          refine g_gfi hIH1989 sx_54 rfl (fun v1996 ev1996 lv1996 uv1996 => ?_)
          refine g_invvi hIH1989 sx_54 rfl rfl rfl rfl (s_6 v1982 (by first | with_reducible assumption | omega) v1981 v1996 H1989 hIH1989 hJH1989) (fun v1999 H1997 r1998 => ?_)
          obtain ⟨hIH1997, hJH1997, w2000, m2001⟩ := r1998
          have e2002 : k1_1 = fZ H1997 1 1 := e1993.trans w2000.symm
          have m2003 : kpX H H1997 := kpX_t m1994 m2001
          refine g_istore (l' := [(0, .ref 54), (1, .int v1981), (2, .int v1982), (3, .int v1995), (4, .int v1999)]) rfl rfl ?_
          refine g_iload rfl ?_
          refine g_aload_n rfl ?_
          refine g_gfi hIH1997 sx_54 rfl (fun v2004 ev2004 lv2004 uv2004 => ?_)
          refine g_if2_lt (fun c2005 => ?_) (fun c2005 => ?_)
          · refine g_aload_n rfl ?_
            refine g_iload_n rfl ?_
            refine g_pfi hIH1997 sx_54 rfl (gz_any _) (fun H2006 eH2006 hIH2006 => ?_)
            have hJH2006 : JX H2006 := JX_sF eH2006 hJH1997
            have e2007 : k1_1 = fZ H2006 1 1 := by rw [eH2006, fZ_sF_nc (by first | with_reducible assumption | omega)]; exact e2002
            have m2008 : kpX H H2006 := kpX_F m2003 eH2006 (by first | with_reducible assumption | omega)
            refine g_aload_n rfl ?_
            refine g_iload rfl ?_
            refine g_pfi hIH2006 sx_54 rfl (gz_any _) (fun H2009 eH2009 hIH2009 => ?_)
            have hJH2009 : JX H2009 := JX_sF eH2009 hJH2006
            have e2010 : k1_1 = fZ H2009 1 1 := by rw [eH2009, fZ_sF_nc (by first | with_reducible assumption | omega)]; exact e2007
            have m2011 : kpX H H2009 := kpX_F m2008 eH2009 (by first | with_reducible assumption | omega)
            refine g_nop ?_
            refine g_iload_n rfl ?_
            refine g_aload_n rfl ?_
            refine g_iload_n rfl ?_
            refine g_aload_n rfl ?_
            refine g_gfr hIH2009 sx_54 rfl ?_
            refine g_invvi hIH2009 sx_54 rfl rfl rfl rfl (s_7 v1982 (by first | with_reducible assumption | omega) 55 zWo_55 H2009 hIH2009 hJH2009) (fun v2014 H2012 r2013 => ?_)
            obtain ⟨hIH2012, hJH2012, bv2014, w2015, m2016⟩ := r2013
            have e2017 : k1_1 = fZ H2012 1 1 := e2010.trans w2015.symm
            have m2018 : kpX H H2012 := kpX_t m2011 m2016
            refine g_iadd' (fun v2019 ov2019 => ?_)
            refine g_istore_n (l' := [(0, .ref 54), (1, .int v2019), (2, .int v1982), (3, .int v1995), (4, .int v1999)]) rfl rfl ?_
            refine g_iinc (l' := (fun v2020 => [(0, .ref 54), (1, .int v2019), (2, .int v2020), (3, .int v1995), (4, .int v1999)])) rfl rfl (by decide) (by first | with_reducible assumption | omega) (fun _ => rfl) (fun v2020 ev2020 => ?_)
            refine g_goto ?_
            refine gG_pick [0, 1, 2] (l' := [(0, .ref 54), (1, .int v2019), (2, .int v2020)]) rfl ?_
            exact ihL1986 v2019 v2020 H2012 hIH2012 hJH2012 e2017 m2018 (by first | with_reducible assumption | omega) (by first | with_reducible assumption | omega)
          · refine g_iload rfl ?_
            refine g_aload_n rfl ?_
            refine g_gfi hIH1997 sx_54 rfl (fun v2021 ev2021 lv2021 uv2021 => ?_)
            refine g_if2_ne (fun c2022 => ?_) (fun c2022 => ?_)
            · refine g_iload_n rfl ?_
              refine g_aload_n rfl ?_
              refine g_iload_n rfl ?_
              refine g_aload_n rfl ?_
              refine g_gfr hIH1997 sx_54 rfl ?_
              refine g_invvi hIH1997 sx_54 rfl rfl rfl rfl (s_7 v1982 (by first | with_reducible assumption | omega) 55 zWo_55 H1997 hIH1997 hJH1997) (fun v2025 H2023 r2024 => ?_)
              obtain ⟨hIH2023, hJH2023, bv2025, w2026, m2027⟩ := r2024
              have e2028 : k1_1 = fZ H2023 1 1 := e2002.trans w2026.symm
              have m2029 : kpX H H2023 := kpX_t m2003 m2027
              refine g_iadd' (fun v2030 ov2030 => ?_)
              refine g_istore_n (l' := [(0, .ref 54), (1, .int v2030), (2, .int v1982), (3, .int v1995), (4, .int v1999)]) rfl rfl ?_
              refine g_iinc (l' := (fun v2031 => [(0, .ref 54), (1, .int v2030), (2, .int v2031), (3, .int v1995), (4, .int v1999)])) rfl rfl (by decide) (by first | with_reducible assumption | omega) (fun _ => rfl) (fun v2031 ev2031 => ?_)
              refine g_goto ?_
              refine gG_pick [0, 1, 2] (l' := [(0, .ref 54), (1, .int v2030), (2, .int v2031)]) rfl ?_
              exact ihL1986 v2030 v2031 H2023 hIH2023 hJH2023 e2028 m2029 (by first | with_reducible assumption | omega) (by first | with_reducible assumption | omega)
            · refine g_iload_n rfl ?_
              refine g_aload_n rfl ?_
              refine g_gfi hIH1997 sx_54 rfl (fun v2032 ev2032 lv2032 uv2032 => ?_)
              refine g_if2_ge (fun c2033 => ?_) (fun c2033 => ?_)
              · refine g_iload_n rfl ?_
                refine g_aload_n rfl ?_
                refine g_iload_n rfl ?_
                refine g_aload_n rfl ?_
                refine g_gfr hIH1997 sx_54 rfl ?_
                refine g_invvi hIH1997 sx_54 rfl rfl rfl rfl (s_7 v1982 (by first | with_reducible assumption | omega) 55 zWo_55 H1997 hIH1997 hJH1997) (fun v2036 H2034 r2035 => ?_)
                obtain ⟨hIH2034, hJH2034, bv2036, w2037, m2038⟩ := r2035
                have e2039 : k1_1 = fZ H2034 1 1 := e2002.trans w2037.symm
                have m2040 : kpX H H2034 := kpX_t m2003 m2038
                refine g_iadd' (fun v2041 ov2041 => ?_)
                refine g_istore_n (l' := [(0, .ref 54), (1, .int v2041), (2, .int v1982), (3, .int v1995), (4, .int v1999)]) rfl rfl ?_
                refine g_iinc (l' := (fun v2042 => [(0, .ref 54), (1, .int v2041), (2, .int v2042), (3, .int v1995), (4, .int v1999)])) rfl rfl (by decide) (by first | with_reducible assumption | omega) (fun _ => rfl) (fun v2042 ev2042 => ?_)
                refine g_goto ?_
                refine gG_pick [0, 1, 2] (l' := [(0, .ref 54), (1, .int v2041), (2, .int v2042)]) rfl ?_
                exact ihL1986 v2041 v2042 H2034 hIH2034 hJH2034 e2039 m2040 (by first | with_reducible assumption | omega) (by first | with_reducible assumption | omega)
              · refine g_nop ?_
                refine g_aload_n rfl ?_
                refine g_iload_n rfl ?_
                refine g_pfi hIH1997 sx_54 rfl (gz_any _) (fun H2043 eH2043 hIH2043 => ?_)
                have hJH2043 : JX H2043 := JX_sF eH2043 hJH1997
                have e2044 : k1_1 = fZ H2043 1 1 := by rw [eH2043, fZ_sF_nc (by first | with_reducible assumption | omega)]; exact e2002
                have m2045 : kpX H H2043 := kpX_F m2003 eH2043 (by first | with_reducible assumption | omega)
                refine g_aload_n rfl ?_
                refine g_iload rfl ?_
                refine g_pfi hIH2043 sx_54 rfl (gz_any _) (fun H2046 eH2046 hIH2046 => ?_)
                have hJH2046 : JX H2046 := JX_sF eH2046 hJH2043
                have e2047 : k1_1 = fZ H2046 1 1 := by rw [eH2046, fZ_sF_nc (by first | with_reducible assumption | omega)]; exact e2044
                have m2048 : kpX H H2046 := kpX_F m2045 eH2046 (by first | with_reducible assumption | omega)
                refine g_nop ?_
                refine g_iload_n rfl ?_
                refine g_aload_n rfl ?_
                refine g_iload_n rfl ?_
                refine g_aload_n rfl ?_
                refine g_gfr hIH2046 sx_54 rfl ?_
                refine g_invvi hIH2046 sx_54 rfl rfl rfl rfl (s_7 v1982 (by first | with_reducible assumption | omega) 55 zWo_55 H2046 hIH2046 hJH2046) (fun v2051 H2049 r2050 => ?_)
                obtain ⟨hIH2049, hJH2049, bv2051, w2052, m2053⟩ := r2050
                have e2054 : k1_1 = fZ H2049 1 1 := e2047.trans w2052.symm
                have m2055 : kpX H H2049 := kpX_t m2048 m2053
                refine g_iadd' (fun v2056 ov2056 => ?_)
                refine g_istore_n (l' := [(0, .ref 54), (1, .int v2056), (2, .int v1982), (3, .int v1995), (4, .int v1999)]) rfl rfl ?_
                refine g_iinc (l' := (fun v2057 => [(0, .ref 54), (1, .int v2056), (2, .int v2057), (3, .int v1995), (4, .int v1999)])) rfl rfl (by decide) (by first | with_reducible assumption | omega) (fun _ => rfl) (fun v2057 ev2057 => ?_)
                refine g_goto ?_
                refine gG_pick [0, 1, 2] (l' := [(0, .ref 54), (1, .int v2056), (2, .int v2057)]) rfl ?_
                exact ihL1986 v2056 v2057 H2049 hIH2049 hJH2049 e2054 m2055 (by first | with_reducible assumption | omega) (by first | with_reducible assumption | omega)
    exact L1986 _ v1979 v1980 H1973 hIH1973 hJH1973 e1977 m1978 (by first | with_reducible assumption | omega) (Nat.lt_succ_self _)
  · exact g_ret ⟨rfl, hI, hJ, (ek1_1.symm.trans ek1_1), mkfr⟩
set_option maxRecDepth 4000 in
set_option maxHeartbeats 4000000 in
/-- X0.propose -/
theorem s_5 (a1 : Int32) (a2 : Int32) (a3 : Int32) (H : mzH) (hI : gI SX H) (hJ : JX H) : gCall 5 [.ref 54, .int a1, .int a2, .int a3] H (gRv (fun H' => gI SX H' ∧ JX H' ∧ fZ H' 1 1 = fZ H 1 1 ∧ kpX H H')) := by
  obtain ⟨k1_1, ek1_1⟩ : ∃ z, z = fZ H 1 1 := ⟨_, rfl⟩
  have ik1_1 : k1_1.toInt = (fZ H 1 1).toInt := by rw [← ek1_1]
  have bk1_1 : 0 ≤ k1_1.toInt ∧ k1_1.toInt ≤ 900 := by rw [ek1_1]; exact fZ_of hI sx_1 rfl
  have mkfr : kpX H H := kpX_r
  refine gG_call [(0, .ref 54), (1, .int a1), (2, .int a2), (3, .int a3)] ⟨rfl, rfl, rfl, rfl, trivial⟩ ?_
  show gG 5 zB_5 (mzBlk zB_5 0) [(0, .ref 54), (1, .int a1), (2, .int a2), (3, .int a3)] [] H 0 0 _
  refine g_iload_n rfl ?_
  refine g_aload_n rfl ?_
  refine g_gfi hI sx_54 rfl (fun v337 ev337 lv337 uv337 => ?_)
  refine g_if2_lt (fun c338 => ?_) (fun c338 => ?_)
  · refine g_iconst (by decide) (fun v339 kv339 => ?_)
    refine g_goto ?_
    refine g_istore (l' := [(0, .ref 54), (1, .int a1), (2, .int a2), (3, .int a3), (4, .int v339)]) rfl rfl ?_
    refine g_iload_n rfl ?_
    refine g_aload_n rfl ?_
    refine g_gfi hI sx_54 rfl (fun v340 ev340 lv340 uv340 => ?_)
    refine g_if2_lt (fun c341 => ?_) (fun c341 => ?_)
    · refine g_aload_n rfl ?_
      refine g_iload_n rfl ?_
      refine g_pfi hI sx_54 rfl (gz_any _) (fun H342 eH342 hIH342 => ?_)
      have hJH342 : JX H342 := JX_sF eH342 hJ
      have e343 : k1_1 = fZ H342 1 1 := by rw [eH342, fZ_sF_nc (by first | with_reducible assumption | omega)]; exact ek1_1
      have m344 : kpX H H342 := kpX_F mkfr eH342 (by first | with_reducible assumption | omega)
      refine g_aload_n rfl ?_
      refine g_iload_n rfl ?_
      refine g_pfi hIH342 sx_54 rfl (gz_any _) (fun H345 eH345 hIH345 => ?_)
      have hJH345 : JX H345 := JX_sF eH345 hJH342
      have e346 : k1_1 = fZ H345 1 1 := by rw [eH345, fZ_sF_nc (by first | with_reducible assumption | omega)]; exact e343
      have m347 : kpX H H345 := kpX_F m344 eH345 (by first | with_reducible assumption | omega)
      refine g_aload_n rfl ?_
      refine g_iload_n rfl ?_
      refine g_pfi hIH345 sx_54 rfl (gz_any _) (fun H348 eH348 hIH348 => ?_)
      have hJH348 : JX H348 := JX_sF eH348 hJH345
      have e349 : k1_1 = fZ H348 1 1 := by rw [eH348, fZ_sF_nc (by first | with_reducible assumption | omega)]; exact e346
      have m350 : kpX H H348 := kpX_F m347 eH348 (by first | with_reducible assumption | omega)
      refine g_nop ?_
      exact g_ret ⟨rfl, hIH348, hJH348, (e349.symm.trans ek1_1), m350⟩
    · refine g_iload_n rfl ?_
      refine g_aload_n rfl ?_
      refine g_gfi hI sx_54 rfl (fun v351 ev351 lv351 uv351 => ?_)
      refine g_if2_ne (fun c352 => ?_) (fun c352 => ?_)
      · exact g_ret ⟨rfl, hI, hJ, (ek1_1.symm.trans ek1_1), mkfr⟩
      · refine g_iload rfl ?_
        refine g_if_eq (fun c353 => ?_) (fun c353 => ?_)
        · exfalso; omega
        · refine g_nop ?_
          refine g_aload_n rfl ?_
          refine g_iload_n rfl ?_
          refine g_pfi hI sx_54 rfl (gz_any _) (fun H354 eH354 hIH354 => ?_)
          have hJH354 : JX H354 := JX_sF eH354 hJ
          have e355 : k1_1 = fZ H354 1 1 := by rw [eH354, fZ_sF_nc (by first | with_reducible assumption | omega)]; exact ek1_1
          have m356 : kpX H H354 := kpX_F mkfr eH354 (by first | with_reducible assumption | omega)
          refine g_aload_n rfl ?_
          refine g_iload_n rfl ?_
          refine g_pfi hIH354 sx_54 rfl (gz_any _) (fun H357 eH357 hIH357 => ?_)
          have hJH357 : JX H357 := JX_sF eH357 hJH354
          have e358 : k1_1 = fZ H357 1 1 := by rw [eH357, fZ_sF_nc (by first | with_reducible assumption | omega)]; exact e355
          have m359 : kpX H H357 := kpX_F m356 eH357 (by first | with_reducible assumption | omega)
          refine g_aload_n rfl ?_
          refine g_iload_n rfl ?_
          refine g_pfi hIH357 sx_54 rfl (gz_any _) (fun H360 eH360 hIH360 => ?_)
          have hJH360 : JX H360 := JX_sF eH360 hJH357
          have e361 : k1_1 = fZ H360 1 1 := by rw [eH360, fZ_sF_nc (by first | with_reducible assumption | omega)]; exact e358
          have m362 : kpX H H360 := kpX_F m359 eH360 (by first | with_reducible assumption | omega)
          refine g_nop ?_
          exact g_ret ⟨rfl, hIH360, hJH360, (e361.symm.trans ek1_1), m362⟩
  · refine g_iload_n rfl ?_
    refine g_aload_n rfl ?_
    refine g_gfi hI sx_54 rfl (fun v363 ev363 lv363 uv363 => ?_)
    refine g_if2_ne (fun c364 => ?_) (fun c364 => ?_)
    · refine g_iconst (by decide) (fun v365 kv365 => ?_)
      refine g_nop ?_
      refine g_istore (l' := [(0, .ref 54), (1, .int a1), (2, .int a2), (3, .int a3), (4, .int v365)]) rfl rfl ?_
      refine g_iload_n rfl ?_
      refine g_aload_n rfl ?_
      refine g_gfi hI sx_54 rfl (fun v366 ev366 lv366 uv366 => ?_)
      refine g_if2_lt (fun c367 => ?_) (fun c367 => ?_)
      · refine g_aload_n rfl ?_
        refine g_iload_n rfl ?_
        refine g_pfi hI sx_54 rfl (gz_any _) (fun H368 eH368 hIH368 => ?_)
        have hJH368 : JX H368 := JX_sF eH368 hJ
        have e369 : k1_1 = fZ H368 1 1 := by rw [eH368, fZ_sF_nc (by first | with_reducible assumption | omega)]; exact ek1_1
        have m370 : kpX H H368 := kpX_F mkfr eH368 (by first | with_reducible assumption | omega)
        refine g_aload_n rfl ?_
        refine g_iload_n rfl ?_
        refine g_pfi hIH368 sx_54 rfl (gz_any _) (fun H371 eH371 hIH371 => ?_)
        have hJH371 : JX H371 := JX_sF eH371 hJH368
        have e372 : k1_1 = fZ H371 1 1 := by rw [eH371, fZ_sF_nc (by first | with_reducible assumption | omega)]; exact e369
        have m373 : kpX H H371 := kpX_F m370 eH371 (by first | with_reducible assumption | omega)
        refine g_aload_n rfl ?_
        refine g_iload_n rfl ?_
        refine g_pfi hIH371 sx_54 rfl (gz_any _) (fun H374 eH374 hIH374 => ?_)
        have hJH374 : JX H374 := JX_sF eH374 hJH371
        have e375 : k1_1 = fZ H374 1 1 := by rw [eH374, fZ_sF_nc (by first | with_reducible assumption | omega)]; exact e372
        have m376 : kpX H H374 := kpX_F m373 eH374 (by first | with_reducible assumption | omega)
        refine g_nop ?_
        exact g_ret ⟨rfl, hIH374, hJH374, (e375.symm.trans ek1_1), m376⟩
      · refine g_iload_n rfl ?_
        refine g_aload_n rfl ?_
        refine g_gfi hI sx_54 rfl (fun v377 ev377 lv377 uv377 => ?_)
        refine g_if2_ne (fun c378 => ?_) (fun c378 => ?_)
        · exact g_ret ⟨rfl, hI, hJ, (ek1_1.symm.trans ek1_1), mkfr⟩
        · refine g_iload rfl ?_
          refine g_if_eq (fun c379 => ?_) (fun c379 => ?_)
          · exact g_ret ⟨rfl, hI, hJ, (ek1_1.symm.trans ek1_1), mkfr⟩
          · exfalso; omega
    · refine g_iload_n rfl ?_
      refine g_aload_n rfl ?_
      refine g_gfi hI sx_54 rfl (fun v380 ev380 lv380 uv380 => ?_)
      refine g_if2_ge (fun c381 => ?_) (fun c381 => ?_)
      · refine g_iconst (by decide) (fun v382 kv382 => ?_)
        refine g_nop ?_
        refine g_istore (l' := [(0, .ref 54), (1, .int a1), (2, .int a2), (3, .int a3), (4, .int v382)]) rfl rfl ?_
        refine g_iload_n rfl ?_
        refine g_aload_n rfl ?_
        refine g_gfi hI sx_54 rfl (fun v383 ev383 lv383 uv383 => ?_)
        refine g_if2_lt (fun c384 => ?_) (fun c384 => ?_)
        · refine g_aload_n rfl ?_
          refine g_iload_n rfl ?_
          refine g_pfi hI sx_54 rfl (gz_any _) (fun H385 eH385 hIH385 => ?_)
          have hJH385 : JX H385 := JX_sF eH385 hJ
          have e386 : k1_1 = fZ H385 1 1 := by rw [eH385, fZ_sF_nc (by first | with_reducible assumption | omega)]; exact ek1_1
          have m387 : kpX H H385 := kpX_F mkfr eH385 (by first | with_reducible assumption | omega)
          refine g_aload_n rfl ?_
          refine g_iload_n rfl ?_
          refine g_pfi hIH385 sx_54 rfl (gz_any _) (fun H388 eH388 hIH388 => ?_)
          have hJH388 : JX H388 := JX_sF eH388 hJH385
          have e389 : k1_1 = fZ H388 1 1 := by rw [eH388, fZ_sF_nc (by first | with_reducible assumption | omega)]; exact e386
          have m390 : kpX H H388 := kpX_F m387 eH388 (by first | with_reducible assumption | omega)
          refine g_aload_n rfl ?_
          refine g_iload_n rfl ?_
          refine g_pfi hIH388 sx_54 rfl (gz_any _) (fun H391 eH391 hIH391 => ?_)
          have hJH391 : JX H391 := JX_sF eH391 hJH388
          have e392 : k1_1 = fZ H391 1 1 := by rw [eH391, fZ_sF_nc (by first | with_reducible assumption | omega)]; exact e389
          have m393 : kpX H H391 := kpX_F m390 eH391 (by first | with_reducible assumption | omega)
          refine g_nop ?_
          exact g_ret ⟨rfl, hIH391, hJH391, (e392.symm.trans ek1_1), m393⟩
        · refine g_iload_n rfl ?_
          refine g_aload_n rfl ?_
          refine g_gfi hI sx_54 rfl (fun v394 ev394 lv394 uv394 => ?_)
          refine g_if2_ne (fun c395 => ?_) (fun c395 => ?_)
          · exact g_ret ⟨rfl, hI, hJ, (ek1_1.symm.trans ek1_1), mkfr⟩
          · refine g_iload rfl ?_
            refine g_if_eq (fun c396 => ?_) (fun c396 => ?_)
            · exact g_ret ⟨rfl, hI, hJ, (ek1_1.symm.trans ek1_1), mkfr⟩
            · exfalso; omega
      · refine g_nop ?_
        refine g_iconst (by decide) (fun v397 kv397 => ?_)
        refine g_goto ?_
        refine g_istore (l' := [(0, .ref 54), (1, .int a1), (2, .int a2), (3, .int a3), (4, .int v397)]) rfl rfl ?_
        refine g_iload_n rfl ?_
        refine g_aload_n rfl ?_
        refine g_gfi hI sx_54 rfl (fun v398 ev398 lv398 uv398 => ?_)
        refine g_if2_lt (fun c399 => ?_) (fun c399 => ?_)
        · refine g_aload_n rfl ?_
          refine g_iload_n rfl ?_
          refine g_pfi hI sx_54 rfl (gz_any _) (fun H400 eH400 hIH400 => ?_)
          have hJH400 : JX H400 := JX_sF eH400 hJ
          have e401 : k1_1 = fZ H400 1 1 := by rw [eH400, fZ_sF_nc (by first | with_reducible assumption | omega)]; exact ek1_1
          have m402 : kpX H H400 := kpX_F mkfr eH400 (by first | with_reducible assumption | omega)
          refine g_aload_n rfl ?_
          refine g_iload_n rfl ?_
          refine g_pfi hIH400 sx_54 rfl (gz_any _) (fun H403 eH403 hIH403 => ?_)
          have hJH403 : JX H403 := JX_sF eH403 hJH400
          have e404 : k1_1 = fZ H403 1 1 := by rw [eH403, fZ_sF_nc (by first | with_reducible assumption | omega)]; exact e401
          have m405 : kpX H H403 := kpX_F m402 eH403 (by first | with_reducible assumption | omega)
          refine g_aload_n rfl ?_
          refine g_iload_n rfl ?_
          refine g_pfi hIH403 sx_54 rfl (gz_any _) (fun H406 eH406 hIH406 => ?_)
          have hJH406 : JX H406 := JX_sF eH406 hJH403
          have e407 : k1_1 = fZ H406 1 1 := by rw [eH406, fZ_sF_nc (by first | with_reducible assumption | omega)]; exact e404
          have m408 : kpX H H406 := kpX_F m405 eH406 (by first | with_reducible assumption | omega)
          refine g_nop ?_
          exact g_ret ⟨rfl, hIH406, hJH406, (e407.symm.trans ek1_1), m408⟩
        · refine g_iload_n rfl ?_
          refine g_aload_n rfl ?_
          refine g_gfi hI sx_54 rfl (fun v409 ev409 lv409 uv409 => ?_)
          refine g_if2_ne (fun c410 => ?_) (fun c410 => ?_)
          · exact g_ret ⟨rfl, hI, hJ, (ek1_1.symm.trans ek1_1), mkfr⟩
          · refine g_iload rfl ?_
            refine g_if_eq (fun c411 => ?_) (fun c411 => ?_)
            · exfalso; omega
            · refine g_nop ?_
              refine g_aload_n rfl ?_
              refine g_iload_n rfl ?_
              refine g_pfi hI sx_54 rfl (gz_any _) (fun H412 eH412 hIH412 => ?_)
              have hJH412 : JX H412 := JX_sF eH412 hJ
              have e413 : k1_1 = fZ H412 1 1 := by rw [eH412, fZ_sF_nc (by first | with_reducible assumption | omega)]; exact ek1_1
              have m414 : kpX H H412 := kpX_F mkfr eH412 (by first | with_reducible assumption | omega)
              refine g_aload_n rfl ?_
              refine g_iload_n rfl ?_
              refine g_pfi hIH412 sx_54 rfl (gz_any _) (fun H415 eH415 hIH415 => ?_)
              have hJH415 : JX H415 := JX_sF eH415 hJH412
              have e416 : k1_1 = fZ H415 1 1 := by rw [eH415, fZ_sF_nc (by first | with_reducible assumption | omega)]; exact e413
              have m417 : kpX H H415 := kpX_F m414 eH415 (by first | with_reducible assumption | omega)
              refine g_aload_n rfl ?_
              refine g_iload_n rfl ?_
              refine g_pfi hIH415 sx_54 rfl (gz_any _) (fun H418 eH418 hIH418 => ?_)
              have hJH418 : JX H418 := JX_sF eH418 hJH415
              have e419 : k1_1 = fZ H418 1 1 := by rw [eH418, fZ_sF_nc (by first | with_reducible assumption | omega)]; exact e416
              have m420 : kpX H H418 := kpX_F m417 eH418 (by first | with_reducible assumption | omega)
              refine g_nop ?_
              exact g_ret ⟨rfl, hIH418, hJH418, (e419.symm.trans ek1_1), m420⟩
set_option maxRecDepth 4000 in
set_option maxHeartbeats 4000000 in
/-- X0.tryPairsWith -/
theorem s_4 (a1 : Int32) (ha1 : 0 ≤ a1.toInt ∧ a1.toInt ≤ 59) (a2 : Int32) (H : mzH) (hI : gI SX H) (hJ : JX H) : gCall 4 [.ref 54, .int a1, .int a2] H (gRv (fun H' => gI SX H' ∧ JX H' ∧ fZ H' 1 1 = fZ H 1 1 ∧ kpX H H')) := by
  obtain ⟨k1_1, ek1_1⟩ : ∃ z, z = fZ H 1 1 := ⟨_, rfl⟩
  have ik1_1 : k1_1.toInt = (fZ H 1 1).toInt := by rw [← ek1_1]
  have bk1_1 : 0 ≤ k1_1.toInt ∧ k1_1.toInt ≤ 900 := by rw [ek1_1]; exact fZ_of hI sx_1 rfl
  have mkfr : kpX H H := kpX_r
  refine gG_call [(0, .ref 54), (1, .int a1), (2, .int a2)] ⟨rfl, rfl, rfl, trivial⟩ ?_
  show gG 6 zB_4 (mzBlk zB_4 0) [(0, .ref 54), (1, .int a1), (2, .int a2)] [] H 0 0 _
  refine g_aload_n rfl ?_
  refine g_gfr hI sx_54 rfl ?_
  refine g_aload_n rfl ?_
  refine g_gfr hI sx_54 rfl ?_
  refine g_invvv hI sx_62 rfl rfl rfl rfl (s_84 62 zWo_62 55 zWo_55 H hI hJ) (fun H173 r174 => ?_)
  obtain ⟨hIH173, hJH173, w175, m176⟩ := r174
  have e177 : k1_1 = fZ H173 1 1 := ek1_1.trans w175.symm
  have m178 : kpX H H173 := kpX_t mkfr m176
  refine g_iload_n rfl ?_
  refine g_istore_n (l' := [(0, .ref 54), (1, .int a1), (2, .int a2), (3, .int a2)]) rfl rfl ?_
  refine g_iload_n rfl ?_
  refine g_iconst (by decide) (fun v179 kv179 => ?_)
  refine g_iadd (by first | with_reducible assumption | omega) (fun v180 ev180 => ?_)
  refine g_istore (l' := [(0, .ref 54), (1, .int a1), (2, .int a2), (3, .int a2), (4, .int v180)]) rfl rfl ?_
  refine g_nop ?_
  have L186 : ∀ (N : Nat) (v181 : Int32) (v182 : Int32) (H183 : mzH), gI SX H183 → JX H183 → k1_1 = fZ H183 1 1 → kpX H H183 → (1 ≤ v182.toInt ∧ v182.toInt ≤ 60) → (60 - v182.toInt).toNat < N → gG 6 zB_4 (mzBlk zB_4 1) [(0, .ref 54), (1, .int a1), (2, .int a2), (3, .int v181), (4, .int v182)] [] H183 0 0 (gRv (fun H' => gI SX H' ∧ JX H' ∧ fZ H' 1 1 = fZ H 1 1 ∧ kpX H H')) := by
    intro N
    induction N with
    | zero => intro v181 v182 H183 hIH183 hJH183 e184 m185 bv182 hmL186; exact absurd hmL186 (Nat.not_lt_zero _)
    | succ N ihL186 =>
      intro v181 v182 H183 hIH183 hJH183 e184 m185 bv182 hmL186
      refine g_iload rfl ?_
      refine g_aload_n rfl ?_
      refine g_gfr hIH183 sx_54 rfl ?_
      refine g_gfi hIH183 sx_25 rfl (fun v187 ev187 lv187 uv187 => ?_)
      refine g_if2_ge (fun c188 => ?_) (fun c188 => ?_)
      · exact g_ret ⟨rfl, hIH183, hJH183, (e184.symm.trans ek1_1), m185⟩
      · refine g_aload_n rfl ?_
        refine g_gfr hIH183 sx_54 rfl ?_
        refine g_aload_n rfl ?_
        refine g_gfr hIH183 sx_54 rfl ?_
        refine g_invvv hIH183 sx_69 rfl rfl rfl rfl (s_84 69 zWo_69 62 zWo_62 H183 hIH183 hJH183) (fun H189 r190 => ?_)
        obtain ⟨hIH189, hJH189, w191, m192⟩ := r190
        have e193 : k1_1 = fZ H189 1 1 := e184.trans w191.symm
        have m194 : kpX H H189 := kpX_t m185 m192
        refine g_aload_n rfl ?_
        refine g_iload rfl ?_
        refine g_iload_n rfl ?_
        refine g_aload_n rfl ?_
        refine g_gfi hIH189 sx_54 rfl (fun v195 ev195 lv195 uv195 => ?_)
        refine g_invvi hIH189 sx_54 rfl rfl rfl rfl (s_6 v182 (by first | with_reducible assumption | omega) v181 v195 H189 hIH189 hJH189) (fun v198 H196 r197 => ?_)
        obtain ⟨hIH196, hJH196, w199, m200⟩ := r197
        have e201 : k1_1 = fZ H196 1 1 := e193.trans w199.symm
        have m202 : kpX H H196 := kpX_t m194 m200
        refine g_istore (l' := [(0, .ref 54), (1, .int a1), (2, .int a2), (3, .int v181), (4, .int v182), (5, .int v198)]) rfl rfl ?_
        refine g_aload_n rfl ?_
        refine g_aload_n rfl ?_
        refine g_gfr hIH196 sx_54 rfl ?_
        refine g_gfr hIH196 sx_25 rfl ?_
        refine g_iload_n rfl ?_
        refine g_iaload hIH196 sx_27 rfl (by first | with_reducible assumption | omega) (fun v203 ev203 lv203 uv203 => ?_)
        refine g_aload_n rfl ?_
        refine g_gfr hIH196 sx_54 rfl ?_
        refine g_gfr hIH196 sx_25 rfl ?_
        refine g_iload rfl ?_
        refine g_iaload hIH196 sx_27 rfl (by first | with_reducible assumption | omega) (fun v204 ev204 lv204 uv204 => ?_)
        refine g_min rfl (fun v205 av205 bv205 dv205 => ?_)
        refine g_aload_n rfl ?_
        refine g_gfr hIH196 sx_54 rfl ?_
        refine g_gfr hIH196 sx_25 rfl ?_
        refine g_iload_n rfl ?_
        refine g_ialoadk hIH196 sx_27 rfl (by first | with_reducible assumption | omega) ev203 ?_
        refine g_aload_n rfl ?_
        refine g_gfr hIH196 sx_54 rfl ?_
        refine g_gfr hIH196 sx_25 rfl ?_
        refine g_iload rfl ?_
        refine g_ialoadk hIH196 sx_27 rfl (by first | with_reducible assumption | omega) ev204 ?_
        refine g_max rfl (fun v206 av206 bv206 dv206 => ?_)
        refine g_iload rfl ?_
        refine g_invvv hIH196 sx_54 rfl rfl rfl rfl (s_5 v205 v206 v198 H196 hIH196 hJH196) (fun H207 r208 => ?_)
        obtain ⟨hIH207, hJH207, w209, m210⟩ := r208
        have e211 : k1_1 = fZ H207 1 1 := e201.trans w209.symm
        have m212 : kpX H H207 := kpX_t m202 m210
        refine g_iload_n rfl ?_
        refine g_aload_n rfl ?_
        refine g_iload rfl ?_
        refine g_aload_n rfl ?_
        refine g_gfr hIH207 sx_54 rfl ?_
        refine g_invvi hIH207 sx_54 rfl rfl rfl rfl (s_7 v182 (by first | with_reducible assumption | omega) 62 zWo_62 H207 hIH207 hJH207) (fun v215 H213 r214 => ?_)
        obtain ⟨hIH213, hJH213, bv215, w216, m217⟩ := r214
        have e218 : k1_1 = fZ H213 1 1 := e211.trans w216.symm
        have m219 : kpX H H213 := kpX_t m212 m217
        refine g_iadd' (fun v220 ov220 => ?_)
        refine g_istore_n (l' := [(0, .ref 54), (1, .int a1), (2, .int a2), (3, .int v220), (4, .int v182), (5, .int v198)]) rfl rfl ?_
        refine g_iinc (l' := (fun v221 => [(0, .ref 54), (1, .int a1), (2, .int a2), (3, .int v220), (4, .int v221), (5, .int v198)])) rfl rfl (by decide) (by first | with_reducible assumption | omega) (fun _ => rfl) (fun v221 ev221 => ?_)
        refine g_goto ?_
        refine gG_pick [0, 1, 2, 3, 4] (l' := [(0, .ref 54), (1, .int a1), (2, .int a2), (3, .int v220), (4, .int v221)]) rfl ?_
        exact ihL186 v220 v221 H213 hIH213 hJH213 e218 m219 (by first | with_reducible assumption | omega) (by first | with_reducible assumption | omega)
  exact L186 _ a2 v180 H173 hIH173 hJH173 e177 m178 (by first | with_reducible assumption | omega) (Nat.lt_succ_self _)
set_option maxRecDepth 4000 in
set_option maxHeartbeats 4000000 in
/-- X0.findTwo -/
theorem s_3 (H : mzH) (hI : gI SX H) (hJ : JX H) : gCall 3 [.ref 54] H (gRv (fun H' => gI SX H' ∧ JX H' ∧ fZ H' 1 1 = fZ H 1 1 ∧ kpX H H')) := by
  obtain ⟨k1_1, ek1_1⟩ : ∃ z, z = fZ H 1 1 := ⟨_, rfl⟩
  have ik1_1 : k1_1.toInt = (fZ H 1 1).toInt := by rw [← ek1_1]
  have bk1_1 : 0 ≤ k1_1.toInt ∧ k1_1.toInt ≤ 900 := by rw [ek1_1]; exact fZ_of hI sx_1 rfl
  have mkfr : kpX H H := kpX_r
  refine gG_call [(0, .ref 54)] ⟨rfl, trivial⟩ ?_
  show gG 3 zB_3 (mzBlk zB_3 0) [(0, .ref 54)] [] H 0 0 _
  refine g_aload_n rfl ?_
  refine g_gfi hI sx_54 rfl (fun v583 ev583 lv583 uv583 => ?_)
  refine g_if_eq (fun c584 => ?_) (fun c584 => ?_)
  · refine g_aload_n rfl ?_
    refine g_iconst (by decide) (fun v585 kv585 => ?_)
    refine g_pfz hI sx_54 rfl (by first | with_reducible assumption | omega) (fun H586 eH586 hIH586 => ?_)
    have hJH586 : JX H586 := JX_sF eH586 hJ
    have e587 : k1_1 = fZ H586 1 1 := by rw [eH586, fZ_sF_nc (by first | with_reducible assumption | omega)]; exact ek1_1
    have m588 : kpX H H586 := kpX_F mkfr eH586 (by first | with_reducible assumption | omega)
    refine g_aload_n rfl ?_
    refine g_bipush (by decide) (fun v589 kv589 => ?_)
    refine g_pfi hIH586 sx_54 rfl (gz_any _) (fun H590 eH590 hIH590 => ?_)
    have hJH590 : JX H590 := JX_sF eH590 hJH586
    have e591 : k1_1 = fZ H590 1 1 := by rw [eH590, fZ_sF_nc (by first | with_reducible assumption | omega)]; exact e587
    have m592 : kpX H H590 := kpX_F m588 eH590 (by first | with_reducible assumption | omega)
    refine g_aload_n rfl ?_
    refine g_gfr hIH590 sx_54 rfl ?_
    refine g_invvv hIH590 sx_55 rfl rfl rfl rfl (s_83 55 zWo_55 H590 hIH590 hJH590) (fun H593 r594 => ?_)
    obtain ⟨hIH593, hJH593, w595, m596⟩ := r594
    have e597 : k1_1 = fZ H593 1 1 := e591.trans w595.symm
    have m598 : kpX H H593 := kpX_t m592 m596
    refine g_iconst (by decide) (fun v599 kv599 => ?_)
    refine g_istore_n (l' := [(0, .ref 54), (1, .int v599)]) rfl rfl ?_
    refine g_iconst (by decide) (fun v600 kv600 => ?_)
    refine g_istore_n (l' := [(0, .ref 54), (1, .int v599), (2, .int v600)]) rfl rfl ?_
    refine g_nop ?_
    have L606 : ∀ (N : Nat) (v601 : Int32) (v602 : Int32) (H603 : mzH), gI SX H603 → JX H603 → k1_1 = fZ H603 1 1 → kpX H H603 → (0 ≤ v602.toInt ∧ v602.toInt ≤ 60) → (60 - v602.toInt).toNat < N → gG 3 zB_3 (mzBlk zB_3 2) [(0, .ref 54), (1, .int v601), (2, .int v602)] [] H603 0 0 (gRv (fun H' => gI SX H' ∧ JX H' ∧ fZ H' 1 1 = fZ H 1 1 ∧ kpX H H')) := by
      intro N
      induction N with
      | zero => intro v601 v602 H603 hIH603 hJH603 e604 m605 bv602 hmL606; exact absurd hmL606 (Nat.not_lt_zero _)
      | succ N ihL606 =>
        intro v601 v602 H603 hIH603 hJH603 e604 m605 bv602 hmL606
        refine g_iload_n rfl ?_
        refine g_aload_n rfl ?_
        refine g_gfr hIH603 sx_54 rfl ?_
        refine g_gfi hIH603 sx_25 rfl (fun v607 ev607 lv607 uv607 => ?_)
        refine g_if2_ge (fun c608 => ?_) (fun c608 => ?_)
        · exact g_ret ⟨rfl, hIH603, hJH603, (e604.symm.trans ek1_1), m605⟩
        · refine g_aload_n rfl ?_
          refine g_iload_n rfl ?_
          refine g_iload_n rfl ?_
          refine g_invvv hIH603 sx_54 rfl rfl rfl rfl (s_4 v602 (by first | with_reducible assumption | omega) v601 H603 hIH603 hJH603) (fun H609 r610 => ?_)
          obtain ⟨hIH609, hJH609, w611, m612⟩ := r610
          have e613 : k1_1 = fZ H609 1 1 := e604.trans w611.symm
          have m614 : kpX H H609 := kpX_t m605 m612
          refine g_iload_n rfl ?_
          refine g_aload_n rfl ?_
          refine g_iload_n rfl ?_
          refine g_aload_n rfl ?_
          refine g_gfr hIH609 sx_54 rfl ?_
          refine g_invvi hIH609 sx_54 rfl rfl rfl rfl (s_7 v602 (by first | with_reducible assumption | omega) 55 zWo_55 H609 hIH609 hJH609) (fun v617 H615 r616 => ?_)
          obtain ⟨hIH615, hJH615, bv617, w618, m619⟩ := r616
          have e620 : k1_1 = fZ H615 1 1 := e613.trans w618.symm
          have m621 : kpX H H615 := kpX_t m614 m619
          refine g_iadd' (fun v622 ov622 => ?_)
          refine g_istore_n (l' := [(0, .ref 54), (1, .int v622), (2, .int v602)]) rfl rfl ?_
          refine g_iinc (l' := (fun v623 => [(0, .ref 54), (1, .int v622), (2, .int v623)])) rfl rfl (by decide) (by first | with_reducible assumption | omega) (fun _ => rfl) (fun v623 ev623 => ?_)
          refine g_goto ?_
          exact ihL606 v622 v623 H615 hIH615 hJH615 e620 m621 (by first | with_reducible assumption | omega) (by first | with_reducible assumption | omega)
    exact L606 _ v599 v600 H593 hIH593 hJH593 e597 m598 (by first | with_reducible assumption | omega) (Nat.lt_succ_self _)
  · exact g_ret ⟨rfl, hI, hJ, (ek1_1.symm.trans ek1_1), mkfr⟩
