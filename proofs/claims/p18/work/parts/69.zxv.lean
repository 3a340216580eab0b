/-! WHAT IS KEPT OF BLAME IS LEFT AS IT IS -/
def kp54 (H B : mzH) : Prop := ∀ f, fZ B 54 f = fZ H 54 f
theorem kp54_r {H : mzH} : kp54 H H := fun _ => rfl
theorem kp54_t {H B B1 : mzH} (h : kp54 H B) (g : kp54 B B1) : kp54 H B1 := fun f => (g f).trans (h f)
theorem kp54_F {H B B1 : mzH} {a f : Nat} {v : Int32} (m : kp54 H B) (e : B1 = sF B a f v) (h : ¬ a = 54) : kp54 H B1 := fun g => by
  rw [e, fZ_sF_nc (by omega)]
  exact m g
theorem kp54_A {H B B1 : mzH} {a f : Nat} {v : Int32} (m : kp54 H B) (e : B1 = sA B a f v) (_ : 0 = 0) : kp54 H B1 := fun g => by
  rw [e, fZ_sA]
  exact m g
theorem kp54_C {H B B1 : mzH} {S : List gSp} {a b d n d1 n1 : Nat} {lo hi lo1 hi1 : Int} (hI : gI S B) (hs : S[a]? = some (.inl (d, n, lo, hi))) (hs1 : S[b]? = some (.inl (d1, n1, lo1, hi1))) (m : kp54 H B) (e : B1 = sC B b a) (_ : 0 = 0) : kp54 H B1 := fun g => by
  rw [e, fZ_sC hI hs hs1]
  exact m g
/-- two contracts of one call are one -/
theorem gAnd {j : Nat} {as : List Value} {H : mzH} {P Q : Option Value → mzH → Prop} (h1 : gCall j as H P) (h2 : gCall j as H Q) : gCall j as H (fun o B => P o B ∧ Q o B) := by
  obtain ⟨o1, B1, p, f1, k1⟩ := h1
  obtain ⟨o2, B2, q, f2, k2⟩ := h2
  have e := (k1 (max f1 f2) (Nat.le_max_left ..)).symm.trans (k2 (max f1 f2) (Nat.le_max_right ..))
  obtain ⟨rfl, rfl⟩ := Prod.mk.inj (Option.some.inj e)
  exact ⟨o1, B1, ⟨p, q⟩, f1, k1⟩
theorem gAndI {j : Nat} {as : List Value} {H : mzH} {P Q : Int32 → mzH → Prop} (h1 : gCall j as H (gRi P)) (h2 : gCall j as H (gRi Q)) : gCall j as H (gRi (fun v B => P v B ∧ Q v B)) := by
  refine gGo_mono (gAnd h1 h2) ?_
  rintro o B ⟨⟨v, rfl, p⟩, ⟨w, e, q⟩⟩
  obtain rfl : v = w := Value.int.inj (Option.some.inj e)
  exact ⟨v, rfl, p, q⟩
set_option maxRecDepth 4000 in
set_option maxHeartbeats 4000000 in
/-- X8.clear -/
theorem v_83 (w : Nat) (hw : zWo w) (H : mzH) (hI : gI SX H) (hJ : JX H) : gCall 83 [.ref w] H (gRv (fun H' => gI SX H' ∧ JX H' ∧ fZ H' 1 1 = fZ H 1 1 ∧ kp54 H H')) := by
  obtain ⟨hwr, hw0, hw1, hw2, hw3, hw4, hw5, hw6⟩ := id hw
  obtain ⟨k1_1, ek1_1⟩ : ∃ z, z = fZ H 1 1 := ⟨_, rfl⟩
  have ik1_1 : k1_1.toInt = (fZ H 1 1).toInt := by rw [← ek1_1]
  have bk1_1 : 0 ≤ k1_1.toInt ∧ k1_1.toInt ≤ 900 := by rw [ek1_1]; exact fZ_of hI sx_1 rfl
  have mkfr : kp54 H H := kp54_r
  refine gG_call [(0, .ref w)] ⟨rfl, trivial⟩ ?_
  show gG 1 zB_83 (mzBlk zB_83 0) [(0, .ref w)] [] H 0 0 _
  refine g_aload_n rfl ?_
  refine g_gfr hI hw0 rfl ?_
  refine g_iconst (by decide) (fun v145 kv145 => ?_)
  refine g_invtv rfl rfl rfl (s_fill (w + 1) hw1 (by decide) v145 (by omega) H hI) (fun H146 r147 => ?_)
  obtain ⟨hIH146, fH146, mH146, _⟩ := r147
  have hJH146 : JX H146 := JX_of hJ (fun k => ⟨mH146 (by omega), mH146 (by omega), mH146 (by omega), mH146 (by omega)⟩)
  have e149 : k1_1 = fZ H146 1 1 := ek1_1.trans (fH146 _ _).symm
  have m150 : kp54 H H146 := kp54_t mkfr (fun _ => fH146 _ _)
  refine g_aload_n rfl ?_
  refine g_gfr hIH146 hw0 rfl ?_
  refine g_bipush (by decide) (fun v151 kv151 => ?_)
  refine g_invtv rfl rfl rfl (s_fill (w + 2) hw2 (by decide) v151 (by omega) H146 hIH146) (fun H152 r153 => ?_)
  obtain ⟨hIH152, fH152, mH152, _⟩ := r153
  have hJH152 : JX H152 := JX_of hJH146 (fun k => ⟨mH152 (by omega), mH152 (by omega), mH152 (by omega), mH152 (by omega)⟩)
  have e155 : k1_1 = fZ H152 1 1 := e149.trans (fH152 _ _).symm
  have m156 : kp54 H H152 := kp54_t m150 (fun _ => fH152 _ _)
  refine g_aload_n rfl ?_
  refine g_gfr hIH152 hw0 rfl ?_
  refine g_iconst (by decide) (fun v157 kv157 => ?_)
  refine g_invtv rfl rfl rfl (s_fill (w + 3) hw3 (by decide) v157 (by omega) H152 hIH152) (fun H158 r159 => ?_)
  obtain ⟨hIH158, fH158, mH158, _⟩ := r159
  have hJH158 : JX H158 := JX_of hJH152 (fun k => ⟨mH158 (by omega), mH158 (by omega), mH158 (by omega), mH158 (by omega)⟩)
  have e161 : k1_1 = fZ H158 1 1 := e155.trans (fH158 _ _).symm
  have m162 : kp54 H H158 := kp54_t m156 (fun _ => fH158 _ _)
  refine g_aload_n rfl ?_
  refine g_gfr hIH158 hw0 rfl ?_
  refine g_iconst (by decide) (fun v163 kv163 => ?_)
  refine g_invtv rfl rfl rfl (s_fill (w + 4) hw4 (by decide) v163 (by omega) H158 hIH158) (fun H164 r165 => ?_)
  obtain ⟨hIH164, fH164, mH164, _⟩ := r165
  have hJH164 : JX H164 := JX_of hJH158 (fun k => ⟨mH164 (by omega), mH164 (by omega), mH164 (by omega), mH164 (by omega)⟩)
  have e167 : k1_1 = fZ H164 1 1 := e161.trans (fH164 _ _).symm
  have m168 : kp54 H H164 := kp54_t m162 (fun _ => fH164 _ _)
  refine g_aload_n rfl ?_
  refine g_gfr hIH164 hw0 rfl ?_
  refine g_bipush (by decide) (fun v169 kv169 => ?_)
  refine g_invtv rfl rfl rfl (s_fill (w + 5) hw5 (by decide) v169 (by omega) H164 hIH164) (fun H170 r171 => ?_)
  obtain ⟨hIH170, fH170, mH170, _⟩ := r171
  have hJH170 : JX H170 := JX_of hJH164 (fun k => ⟨mH170 (by omega), mH170 (by omega), mH170 (by omega), mH170 (by omega)⟩)
  have e173 : k1_1 = fZ H170 1 1 := e167.trans (fH170 _ _).symm
  have m174 : kp54 H H170 := kp54_t m168 (fun _ => fH170 _ _)
  refine g_aload_n rfl ?_
  refine g_gfr hIH170 hw0 rfl ?_
  refine g_iconst (by decide) (fun v175 kv175 => ?_)
  refine g_invtv rfl rfl rfl (s_fill (w + 6) hw6 (by decide) v175 (by omega) H170 hIH170) (fun H176 r177 => ?_)
  obtain ⟨hIH176, fH176, mH176, _⟩ := r177
  have hJH176 : JX H176 := JX_of hJH170 (fun k => ⟨mH176 (by omega), mH176 (by omega), mH176 (by omega), mH176 (by omega)⟩)
  have e179 : k1_1 = fZ H176 1 1 := e173.trans (fH176 _ _).symm
  have m180 : kp54 H H176 := kp54_t m174 (fun _ => fH176 _ _)
  exact g_ret ⟨rfl, hIH176, hJH176, (e179.symm.trans ek1_1), m180⟩
set_option maxRecDepth 4000 in
set_option maxHeartbeats 4000000 in
/-- X8.become -/
theorem v_84 (w : Nat) (hw : zWo w) (u : Nat) (hu : zWo u) (H : mzH) (hI : gI SX H) (hJ : JX H) : gCall 84 [.ref w, .ref u] H (gRv (fun H' => gI SX H' ∧ JX H' ∧ fZ H' 1 1 = fZ H 1 1 ∧ kp54 H H')) := by
  obtain ⟨hwr, hw0, hw1, hw2, hw3, hw4, hw5, hw6⟩ := id hw
  obtain ⟨hur, hu0, hu1, hu2, hu3, hu4, hu5, hu6⟩ := id hu
  obtain ⟨k1_1, ek1_1⟩ : ∃ z, z = fZ H 1 1 := ⟨_, rfl⟩
  have ik1_1 : k1_1.toInt = (fZ H 1 1).toInt := by rw [← ek1_1]
  have bk1_1 : 0 ≤ k1_1.toInt ∧ k1_1.toInt ≤ 900 := by rw [ek1_1]; exact fZ_of hI sx_1 rfl
  have mkfr : kp54 H H := kp54_r
  refine gG_call [(0, .ref w), (1, .ref u)] ⟨rfl, rfl, trivial⟩ ?_
  show gG 2 zB_84 (mzBlk zB_84 0) [(0, .ref w), (1, .ref u)] [] H 0 0 _
  refine g_aload_n rfl ?_
  refine g_gfr hI hu0 rfl ?_
  refine g_iconst (by decide) (fun v145 kv145 => ?_)
  refine g_aload_n rfl ?_
  refine g_gfr hI hw0 rfl ?_
  refine g_iconst (by decide) (fun v146 kv146 => ?_)
  refine g_bipush (by decide) (fun v147 kv147 => ?_)
  refine g_acp hI hw1 hu1 (by decide) (by decide) (by omega) (by omega) (by omega) rfl (fun H148 eH148 hIH148 => ?_)
  have hJH148 : JX H148 := JX_sC (by omega) eH148 hJ
  have e149 : k1_1 = fZ H148 1 1 := by rw [eH148, fZ_sC hI hw1 hu1]; exact ek1_1
  have m150 : kp54 H H148 := kp54_C hI hw1 hu1 mkfr eH148 (by omega)
  refine g_aload_n rfl ?_
  refine g_gfr hIH148 hu0 rfl ?_
  refine g_iconst (by decide) (fun v151 kv151 => ?_)
  refine g_aload_n rfl ?_
  refine g_gfr hIH148 hw0 rfl ?_
  refine g_iconst (by decide) (fun v152 kv152 => ?_)
  refine g_bipush (by decide) (fun v153 kv153 => ?_)
  refine g_acp hIH148 hw2 hu2 (by decide) (by decide) (by omega) (by omega) (by omega) rfl (fun H154 eH154 hIH154 => ?_)
  have hJH154 : JX H154 := JX_sC (by omega) eH154 hJH148
  have e155 : k1_1 = fZ H154 1 1 := by rw [eH154, fZ_sC hIH148 hw2 hu2]; exact e149
  have m156 : kp54 H H154 := kp54_C hIH148 hw2 hu2 m150 eH154 (by omega)
  refine g_aload_n rfl ?_
  refine g_gfr hIH154 hu0 rfl ?_
  refine g_iconst (by decide) (fun v157 kv157 => ?_)
  refine g_aload_n rfl ?_
  refine g_gfr hIH154 hw0 rfl ?_
  refine g_iconst (by decide) (fun v158 kv158 => ?_)
  refine g_bipush (by decide) (fun v159 kv159 => ?_)
  refine g_acp hIH154 hw3 hu3 (by decide) (by decide) (by omega) (by omega) (by omega) rfl (fun H160 eH160 hIH160 => ?_)
  have hJH160 : JX H160 := JX_sC (by omega) eH160 hJH154
  have e161 : k1_1 = fZ H160 1 1 := by rw [eH160, fZ_sC hIH154 hw3 hu3]; exact e155
  have m162 : kp54 H H160 := kp54_C hIH154 hw3 hu3 m156 eH160 (by omega)
  refine g_aload_n rfl ?_
  refine g_gfr hIH160 hu0 rfl ?_
  refine g_iconst (by decide) (fun v163 kv163 => ?_)
  refine g_aload_n rfl ?_
  refine g_gfr hIH160 hw0 rfl ?_
  refine g_iconst (by decide) (fun v164 kv164 => ?_)
  refine g_bipush (by decide) (fun v165 kv165 => ?_)
  refine g_acp hIH160 hw4 hu4 (by decide) (by decide) (by omega) (by omega) (by omega) rfl (fun H166 eH166 hIH166 => ?_)
  have hJH166 : JX H166 := JX_sC (by omega) eH166 hJH160
  have e167 : k1_1 = fZ H166 1 1 := by rw [eH166, fZ_sC hIH160 hw4 hu4]; exact e161
  have m168 : kp54 H H166 := kp54_C hIH160 hw4 hu4 m162 eH166 (by omega)
  refine g_aload_n rfl ?_
  refine g_gfr hIH166 hu0 rfl ?_
  refine g_iconst (by decide) (fun v169 kv169 => ?_)
  refine g_aload_n rfl ?_
  refine g_gfr hIH166 hw0 rfl ?_
  refine g_iconst (by decide) (fun v170 kv170 => ?_)
  refine g_bipush (by decide) (fun v171 kv171 => ?_)
  refine g_acp hIH166 hw5 hu5 (by decide) (by decide) (by omega) (by omega) (by omega) rfl (fun H172 eH172 hIH172 => ?_)
  have hJH172 : JX H172 := JX_sC (by omega) eH172 hJH166
  have e173 : k1_1 = fZ H172 1 1 := by rw [eH172, fZ_sC hIH166 hw5 hu5]; exact e167
  have m174 : kp54 H H172 := kp54_C hIH166 hw5 hu5 m168 eH172 (by omega)
  refine g_aload_n rfl ?_
  refine g_gfr hIH172 hu0 rfl ?_
  refine g_iconst (by decide) (fun v175 kv175 => ?_)
  refine g_aload_n rfl ?_
  refine g_gfr hIH172 hw0 rfl ?_
  refine g_iconst (by decide) (fun v176 kv176 => ?_)
  refine g_bipush (by decide) (fun v177 kv177 => ?_)
  refine g_acp hIH172 hw6 hu6 (by decide) (by decide) (by omega) (by omega) (by omega) rfl (fun H178 eH178 hIH178 => ?_)
  have hJH178 : JX H178 := JX_sC (by omega) eH178 hJH172
  have e179 : k1_1 = fZ H178 1 1 := by rw [eH178, fZ_sC hIH172 hw6 hu6]; exact e173
  have m180 : kp54 H H178 := kp54_C hIH172 hw6 hu6 m174 eH178 (by omega)
  exact g_ret ⟨rfl, hIH178, hJH178, (e179.symm.trans ek1_1), m180⟩
set_option maxRecDepth 4000 in
set_option maxHeartbeats 4000000 in
/-- X8.stand -/
theorem v_99 (w : Nat) (hw : zWo w) (a1 : Int32) (ha1 : 0 ≤ a1.toInt ∧ a1.toInt ≤ 39) (a2 : Int32) (a3 : Int32) (H : mzH) (hI : gI SX H) (hJ : JX H) : gCall 99 [.ref w, .int a1, .int a2, .int a3] H (gRv (fun H' => gI SX H' ∧ JX H' ∧ fZ H' 1 1 = fZ H 1 1 ∧ kp54 H H')) := by
  obtain ⟨hwr, hw0, hw1, hw2, hw3, hw4, hw5, hw6⟩ := id hw
  obtain ⟨k1_1, ek1_1⟩ : ∃ z, z = fZ H 1 1 := ⟨_, rfl⟩
  have ik1_1 : k1_1.toInt = (fZ H 1 1).toInt := by rw [← ek1_1]
  have bk1_1 : 0 ≤ k1_1.toInt ∧ k1_1.toInt ≤ 900 := by rw [ek1_1]; exact fZ_of hI sx_1 rfl
  have mkfr : kp54 H H := kp54_r
  refine gG_call [(0, .ref w), (1, .int a1), (2, .int a2), (3, .int a3)] ⟨rfl, rfl, rfl, rfl, trivial⟩ ?_
  show gG 4 zB_99 (mzBlk zB_99 0) [(0, .ref w), (1, .int a1), (2, .int a2), (3, .int a3)] [] H 0 0 _
  refine g_aload_n rfl ?_
  refine g_gfr hI hw0 rfl ?_
  refine g_iload_n rfl ?_
  refine g_bipush (by decide) (fun v41 kv41 => ?_)
  refine g_iastore hI hw2 (by omega) (by omega) (fun H42 eH42 hIH42 => ?_)
  have hJH42 : JX H42 := JX_sA (by omega) eH42 hJ
  have e43 : k1_1 = fZ H42 1 1 := by rw [eH42, fZ_sA]; exact ek1_1
  have m44 : kp54 H H42 := kp54_A mkfr eH42 (by omega)
  refine g_aload_n rfl ?_
  refine g_gfr hIH42 hw0 rfl ?_
  refine g_iload_n rfl ?_
  refine g_iload_n rfl ?_
  refine g_iastore hIH42 hw3 (by omega) (gz_any _) (fun H45 eH45 hIH45 => ?_)
  have hJH45 : JX H45 := JX_sA (by omega) eH45 hJH42
  have e46 : k1_1 = fZ H45 1 1 := by rw [eH45, fZ_sA]; exact e43
  have m47 : kp54 H H45 := kp54_A m44 eH45 (by omega)
  refine g_aload_n rfl ?_
  refine g_gfr hIH45 hw0 rfl ?_
  refine g_iload_n rfl ?_
  refine g_iload_n rfl ?_
  refine g_iastore hIH45 hw4 (by omega) (gz_any _) (fun H48 eH48 hIH48 => ?_)
  have hJH48 : JX H48 := JX_sA (by omega) eH48 hJH45
  have e49 : k1_1 = fZ H48 1 1 := by rw [eH48, fZ_sA]; exact e46
  have m50 : kp54 H H48 := kp54_A m47 eH48 (by omega)
  exact g_ret ⟨rfl, hIH48, hJH48, (e49.symm.trans ek1_1), m50⟩
set_option maxRecDepth 4000 in
set_option maxHeartbeats 4000000 in
/-- X8.mark -/
theorem v_86 (w : Nat) (hw : zWo w) (a1 : Int32) (ha1 : 0 ≤ a1.toInt ∧ a1.toInt ≤ 39) (a2 : Int32) (H : mzH) (hI : gI SX H) (hJ : JX H) : gCall 86 [.ref w, .int a1, .int a2] H (gRv (fun H' => gI SX H' ∧ JX H' ∧ fZ H' 1 1 = fZ H 1 1 ∧ kp54 H H')) := by
  obtain ⟨hwr, hw0, hw1, hw2, hw3, hw4, hw5, hw6⟩ := id hw
  obtain ⟨k1_1, ek1_1⟩ : ∃ z, z = fZ H 1 1 := ⟨_, rfl⟩
  have ik1_1 : k1_1.toInt = (fZ H 1 1).toInt := by rw [← ek1_1]
  have bk1_1 : 0 ≤ k1_1.toInt ∧ k1_1.toInt ≤ 900 := by rw [ek1_1]; exact fZ_of hI sx_1 rfl
  have mkfr : kp54 H H := kp54_r
  refine gG_call [(0, .ref w), (1, .int a1), (2, .int a2)] ⟨rfl, rfl, rfl, trivial⟩ ?_
  show gG 3 zB_86 (mzBlk zB_86 0) [(0, .ref w), (1, .int a1), (2, .int a2)] [] H 0 0 _
  refine g_aload_n rfl ?_
  refine g_gfr hI hw0 rfl ?_
  refine g_iload_n rfl ?_
  refine g_dup2 rfl ?_
  refine g_iaload hI hw6 rfl (by omega) (fun v21 ev21 lv21 uv21 => ?_)
  refine g_iload_n rfl ?_
  refine g_ior' (fun v22 ov22 => ?_)
  refine g_iastore hI hw6 (by omega) (gz_any _) (fun H23 eH23 hIH23 => ?_)
  have hJH23 : JX H23 := JX_sA (by omega) eH23 hJ
  have e24 : k1_1 = fZ H23 1 1 := by rw [eH23, fZ_sA]; exact ek1_1
  have m25 : kp54 H H23 := kp54_A mkfr eH23 (by omega)
  exact g_ret ⟨rfl, hIH23, hJH23, (e24.symm.trans ek1_1), m25⟩
set_option maxRecDepth 4000 in
set_option maxHeartbeats 4000000 in
/-- X8.openAround -/
theorem v_100 (w : Nat) (hw : zWo w) (a1 : Int32) (ha1 : 0 ≤ a1.toInt ∧ a1.toInt ≤ 39) (H : mzH) (hI : gI SX H) (hJ : JX H) : gCall 100 [.ref w, .int a1] H (gRv (fun H' => gI SX H' ∧ JX H' ∧ fZ H' 1 1 = fZ H 1 1 ∧ kp54 H H')) := by
  obtain ⟨hwr, hw0, hw1, hw2, hw3, hw4, hw5, hw6⟩ := id hw
  obtain ⟨k1_1, ek1_1⟩ : ∃ z, z = fZ H 1 1 := ⟨_, rfl⟩
  have ik1_1 : k1_1.toInt = (fZ H 1 1).toInt := by rw [← ek1_1]
  have bk1_1 : 0 ≤ k1_1.toInt ∧ k1_1.toInt ≤ 900 := by rw [ek1_1]; exact fZ_of hI sx_1 rfl
  have mkfr : kp54 H H := kp54_r
  refine gG_call [(0, .ref w), (1, .int a1)] ⟨rfl, rfl, trivial⟩ ?_
  show gG 2 zB_100 (mzBlk zB_100 0) [(0, .ref w), (1, .int a1)] [] H 0 0 _
  refine g_aload_n rfl ?_
  refine g_gfr hI hw0 rfl ?_
  refine g_iload_n rfl ?_
  refine g_iaload hI hw2 rfl (by omega) (fun v37 ev37 lv37 uv37 => ?_)
  refine g_if_lt (fun c38 => ?_) (fun c38 => ?_)
  · exact g_ret ⟨rfl, hI, hJ, (ek1_1.symm.trans ek1_1), mkfr⟩
  · refine g_aload_n rfl ?_
    refine g_aload_n rfl ?_
    refine g_gfr hI hw0 rfl ?_
    refine g_iload_n rfl ?_
    refine g_ialoadk hI hw2 rfl (by omega) ev37 ?_
    refine g_iconst (by decide) (fun v39 kv39 => ?_)
    refine g_invvv hI hw0 rfl rfl rfl rfl (v_86 w hw v37 (by omega) v39 H hI hJ) (fun H40 r41 => ?_)
    obtain ⟨hIH40, hJH40, w42, m43⟩ := r41
    have e44 : k1_1 = fZ H40 1 1 := ek1_1.trans w42.symm
    have m45 : kp54 H H40 := kp54_t mkfr m43
    refine g_nop ?_
    exact g_ret ⟨rfl, hIH40, hJH40, (e44.symm.trans ek1_1), m45⟩
set_option maxRecDepth 4000 in
set_option maxHeartbeats 4000000 in
/-- X8.unmark -/
theorem v_87 (w : Nat) (hw : zWo w) (a1 : Int32) (ha1 : 0 ≤ a1.toInt ∧ a1.toInt ≤ 39) (a2 : Int32) (H : mzH) (hI : gI SX H) (hJ : JX H) : gCall 87 [.ref w, .int a1, .int a2] H (gRv (fun H' => gI SX H' ∧ JX H' ∧ fZ H' 1 1 = fZ H 1 1 ∧ kp54 H H')) := by
  obtain ⟨hwr, hw0, hw1, hw2, hw3, hw4, hw5, hw6⟩ := id hw
  obtain ⟨k1_1, ek1_1⟩ : ∃ z, z = fZ H 1 1 := ⟨_, rfl⟩
  have ik1_1 : k1_1.toInt = (fZ H 1 1).toInt := by rw [← ek1_1]
  have bk1_1 : 0 ≤ k1_1.toInt ∧ k1_1.toInt ≤ 900 := by rw [ek1_1]; exact fZ_of hI sx_1 rfl
  have mkfr : kp54 H H := kp54_r
  refine gG_call [(0, .ref w), (1, .int a1), (2, .int a2)] ⟨rfl, rfl, rfl, trivial⟩ ?_
  show gG 3 zB_87 (mzBlk zB_87 0) [(0, .ref w), (1, .int a1), (2, .int a2)] [] H 0 0 _
  refine g_aload_n rfl ?_
  refine g_gfr hI hw0 rfl ?_
  refine g_iload_n rfl ?_
  refine g_dup2 rfl ?_
  refine g_iaload hI hw6 rfl (by omega) (fun v29 ev29 lv29 uv29 => ?_)
  refine g_iload_n rfl ?_
  refine g_iconst (by decide) (fun v30 kv30 => ?_)
  refine g_ixor' (fun v31 ov31 => ?_)
  refine g_iand' (fun v32 _ => ?_)
  refine g_iastore hI hw6 (by omega) (gz_any _) (fun H33 eH33 hIH33 => ?_)
  have hJH33 : JX H33 := JX_sA (by omega) eH33 hJ
  have e34 : k1_1 = fZ H33 1 1 := by rw [eH33, fZ_sA]; exact ek1_1
  have m35 : kp54 H H33 := kp54_A mkfr eH33 (by omega)
  exact g_ret ⟨rfl, hIH33, hJH33, (e34.symm.trans ek1_1), m35⟩
set_option maxRecDepth 4000 in
set_option maxHeartbeats 4000000 in
/-- X8.endWithAllIn -/
theorem v_102 (w : Nat) (hw : zWo w) (a1 : Int32) (H : mzH) (hI : gI SX H) (hJ : JX H) : gCall 102 [.ref w, .int a1] H (gRv (fun H' => gI SX H' ∧ JX H' ∧ fZ H' 1 1 = fZ H 1 1 ∧ kp54 H H')) := by
  obtain ⟨hwr, hw0, hw1, hw2, hw3, hw4, hw5, hw6⟩ := id hw
  obtain ⟨k1_1, ek1_1⟩ : ∃ z, z = fZ H 1 1 := ⟨_, rfl⟩
  have ik1_1 : k1_1.toInt = (fZ H 1 1).toInt := by rw [← ek1_1]
  have bk1_1 : 0 ≤ k1_1.toInt ∧ k1_1.toInt ≤ 900 := by rw [ek1_1]; exact fZ_of hI sx_1 rfl
  have mkfr : kp54 H H := kp54_r
  refine gG_call [(0, .ref w), (1, .int a1)] ⟨rfl, rfl, trivial⟩ ?_
  show gG 3 zB_102 (mzBlk zB_102 0) [(0, .ref w), (1, .int a1)] [] H 0 0 _
  refine g_iconst (by decide) (fun v537 kv537 => ?_)
  refine g_istore_n (l' := [(0, .ref w), (1, .int a1), (2, .int v537)]) rfl rfl ?_
  refine g_nop ?_
  have L542 : ∀ (N : Nat) (v538 : Int32) (H539 : mzH), gI SX H539 → JX H539 → k1_1 = fZ H539 1 1 → kp54 H H539 → (0 ≤ v538.toInt ∧ v538.toInt ≤ 40) → (40 - v538.toInt).toNat < N → gG 3 zB_102 (mzBlk zB_102 1) [(0, .ref w), (1, .int a1), (2, .int v538)] [] H539 0 0 (gRv (fun H' => gI SX H' ∧ JX H' ∧ fZ H' 1 1 = fZ H 1 1 ∧ kp54 H H')) := by
    intro N
    induction N with
    | zero => intro v538 H539 hIH539 hJH539 e540 m541 bv538 hmL542; exact absurd hmL542 (Nat.not_lt_zero _)
    | succ N ihL542 =>
      intro v538 H539 hIH539 hJH539 e540 m541 bv538 hmL542
      refine g_iload_n rfl ?_
      refine g_bipush (by decide) (fun v543 kv543 => ?_)
      refine g_if2_ge (fun c544 => ?_) (fun c544 => ?_)
      · refine g_iconst (by decide) (fun v545 kv545 => ?_)
        refine g_istore_n (l' := [(0, .ref w), (1, .int a1), (2, .int v545)]) rfl rfl ?_
        refine g_nop ?_
        have L550 : ∀ (N : Nat) (v546 : Int32) (H547 : mzH), gI SX H547 → JX H547 → k1_1 = fZ H547 1 1 → kp54 H H547 → (0 ≤ v546.toInt ∧ v546.toInt ≤ 40) → (40 - v546.toInt).toNat < N → gG 3 zB_102 (mzBlk zB_102 5) [(0, .ref w), (1, .int a1), (2, .int v546)] [] H547 0 0 (gRv (fun H' => gI SX H' ∧ JX H' ∧ fZ H' 1 1 = fZ H 1 1 ∧ kp54 H H')) := by
          intro N
          induction N with
          | zero => intro v546 H547 hIH547 hJH547 e548 m549 bv546 hmL550; exact absurd hmL550 (Nat.not_lt_zero _)
          | succ N ihL550 =>
            intro v546 H547 hIH547 hJH547 e548 m549 bv546 hmL550
            refine g_iload_n rfl ?_
            refine g_bipush (by decide) (fun v551 kv551 => ?_)
            refine g_if2_ge (fun c552 => ?_) (fun c552 => ?_)
            · exact g_ret ⟨rfl, hIH547, hJH547, (e548.symm.trans ek1_1), m549⟩
            · refine g_aload_n rfl ?_
              refine g_iload_n rfl ?_
              refine g_iconst (by decide) (fun v553 kv553 => ?_)
              refine g_invvi hIH547 hw0 rfl rfl rfl rfl (s_85 w hw v546 (by omega) v553 H547 hIH547 hJH547) (fun v556 H554 r555 => ?_)
              obtain ⟨rfl, bv556⟩ := r555
              refine g_if_eq (fun c557 => ?_) (fun c557 => ?_)
              · refine g_iinc (l' := (fun v558 => [(0, .ref w), (1, .int a1), (2, .int v558)])) rfl rfl (by decide) (by omega) (fun _ => rfl) (fun v558 ev558 => ?_)
                refine g_goto ?_
                exact ihL550 v558 H547 hIH547 hJH547 e548 m549 (by omega) (by omega)
              · refine g_aload_n rfl ?_
                refine g_gfr hIH547 hw0 rfl ?_
                refine g_iload_n rfl ?_
                refine g_bipush (by decide) (fun v559 kv559 => ?_)
                refine g_iastore hIH547 hw2 (by omega) (by omega) (fun H560 eH560 hIH560 => ?_)
                have hJH560 : JX H560 := JX_sA (by omega) eH560 hJH547
                have e561 : k1_1 = fZ H560 1 1 := by rw [eH560, fZ_sA]; exact e548
                have m562 : kp54 H H560 := kp54_A m549 eH560 (by omega)
                refine g_aload_n rfl ?_
                refine g_iload_n rfl ?_
                refine g_bipush (by decide) (fun v563 kv563 => ?_)
                refine g_invvv hIH560 hw0 rfl rfl rfl rfl (v_87 w hw v546 (by omega) v563 H560 hIH560 hJH560) (fun H564 r565 => ?_)
                obtain ⟨hIH564, hJH564, w566, m567⟩ := r565
                have e568 : k1_1 = fZ H564 1 1 := e561.trans w566.symm
                have m569 : kp54 H H564 := kp54_t m562 m567
                refine g_nop ?_
                refine g_iinc (l' := (fun v570 => [(0, .ref w), (1, .int a1), (2, .int v570)])) rfl rfl (by decide) (by omega) (fun _ => rfl) (fun v570 ev570 => ?_)
                refine g_goto ?_
                exact ihL550 v570 H564 hIH564 hJH564 e568 m569 (by omega) (by omega)
        exact L550 _ v545 H539 hIH539 hJH539 e540 m541 (by omega) (Nat.lt_succ_self _)
      · refine g_iload_n rfl ?_
        refine g_iload_n rfl ?_
        refine g_if2_eq (fun c571 => ?_) (fun c571 => ?_)
        · refine g_aload_n rfl ?_
          refine g_iload_n rfl ?_
          refine g_iconst (by decide) (fun v572 kv572 => ?_)
          refine g_invvv hIH539 hw0 rfl rfl rfl rfl (v_86 w hw v538 (by omega) v572 H539 hIH539 hJH539) (fun H573 r574 => ?_)
          obtain ⟨hIH573, hJH573, w575, m576⟩ := r574
          have e577 : k1_1 = fZ H573 1 1 := e540.trans w575.symm
          have m578 : kp54 H H573 := kp54_t m541 m576
          refine g_nop ?_
          refine g_iinc (l' := (fun v579 => [(0, .ref w), (1, .int a1), (2, .int v579)])) rfl rfl (by decide) (by omega) (fun _ => rfl) (fun v579 ev579 => ?_)
          refine g_goto ?_
          exact ihL542 v579 H573 hIH573 hJH573 e577 m578 (by omega) (by omega)
        · refine g_aload_n rfl ?_
          refine g_iload_n rfl ?_
          refine g_iload_n rfl ?_
          refine g_invvi hIH539 hw0 rfl rfl rfl rfl (s_90 w hw v538 (by omega) a1 H539 hIH539 hJH539) (fun v582 H580 r581 => ?_)
          obtain ⟨rfl, bv582⟩ := r581
          refine g_if_eq (fun c583 => ?_) (fun c583 => ?_)
          · refine g_iinc (l' := (fun v584 => [(0, .ref w), (1, .int a1), (2, .int v584)])) rfl rfl (by decide) (by omega) (fun _ => rfl) (fun v584 ev584 => ?_)
            refine g_goto ?_
            exact ihL542 v584 H539 hIH539 hJH539 e540 m541 (by omega) (by omega)
          · refine g_nop ?_
            refine g_aload_n rfl ?_
            refine g_iload_n rfl ?_
            refine g_iconst (by decide) (fun v585 kv585 => ?_)
            refine g_invvv hIH539 hw0 rfl rfl rfl rfl (v_86 w hw v538 (by omega) v585 H539 hIH539 hJH539) (fun H586 r587 => ?_)
            obtain ⟨hIH586, hJH586, w588, m589⟩ := r587
            have e590 : k1_1 = fZ H586 1 1 := e540.trans w588.symm
            have m591 : kp54 H H586 := kp54_t m541 m589
            refine g_nop ?_
            refine g_iinc (l' := (fun v592 => [(0, .ref w), (1, .int a1), (2, .int v592)])) rfl rfl (by decide) (by omega) (fun _ => rfl) (fun v592 ev592 => ?_)
            refine g_goto ?_
            exact ihL542 v592 H586 hIH586 hJH586 e590 m591 (by omega) (by omega)
  exact L542 _ v537 H hI hJ ek1_1 mkfr (by omega) (Nat.lt_succ_self _)
set_option maxRecDepth 4000 in
set_option maxHeartbeats 4000000 in
/-- X8.carryOut -/
theorem v_98 (w : Nat) (hw : zWo w) (b : Nat) (hb : zBo b) (a2 : Int32) (ha2 : 0 ≤ a2.toInt ∧ a2.toInt ≤ 59) (a3 : Int32) (H : mzH) (hI : gI SX H) (hJ : JX H) : gCall 98 [.ref w, .ref b, .int a2, .int a3] H (gRv (fun H' => gI SX H' ∧ JX H' ∧ fZ H' 1 1 = fZ H 1 1 ∧ kp54 H H')) := by
  obtain ⟨hwr, hw0, hw1, hw2, hw3, hw4, hw5, hw6⟩ := id hw
  obtain ⟨hbr, hb0, hb1, hb2, hb3, hb4, hb5, hb6, hb7⟩ := id hb
  obtain ⟨k1_1, ek1_1⟩ : ∃ z, z = fZ H 1 1 := ⟨_, rfl⟩
  have ik1_1 : k1_1.toInt = (fZ H 1 1).toInt := by rw [← ek1_1]
  have bk1_1 : 0 ≤ k1_1.toInt ∧ k1_1.toInt ≤ 900 := by rw [ek1_1]; exact fZ_of hI sx_1 rfl
  have mkfr : kp54 H H := kp54_r
  refine gG_call [(0, .ref w), (1, .ref b), (2, .int a2), (3, .int a3)] ⟨rfl, rfl, rfl, rfl, trivial⟩ ?_
  show gG 7 zB_98 (mzBlk zB_98 0) [(0, .ref w), (1, .ref b), (2, .int a2), (3, .int a3)] [] H 0 0 _
  refine g_aload_n rfl ?_
  refine g_gfr hI hb0 rfl ?_
  refine g_iload_n rfl ?_
  refine g_iaload hI hb5 rfl (by omega) (fun v449 ev449 lv449 uv449 => ?_)
  refine g_istore (l' := [(0, .ref w), (1, .ref b), (2, .int a2), (3, .int a3), (4, .int v449)]) rfl rfl ?_
  refine g_aload_n rfl ?_
  refine g_gfr hI hb0 rfl ?_
  refine g_iload_n rfl ?_
  refine g_iaload hI hb6 rfl (by omega) (fun v450 ev450 lv450 uv450 => ?_)
  refine g_istore (l' := [(0, .ref w), (1, .ref b), (2, .int a2), (3, .int a3), (4, .int v449), (5, .int v450)]) rfl rfl ?_
  refine g_aload_n rfl ?_
  refine g_iload rfl ?_
  refine g_invvi hI hw0 rfl rfl rfl rfl (s_89 w hw v449 (by omega) H hI hJ) (fun v453 H451 r452 => ?_)
  obtain ⟨rfl, bv453⟩ := r452
  refine g_istore (l' := [(0, .ref w), (1, .ref b), (2, .int a2), (3, .int a3), (4, .int v449), (5, .int v450), (6, .int v453)]) rfl rfl ?_
  refine g_aload_n rfl ?_
  refine g_gfr hI hb0 rfl ?_
  refine g_iload_n rfl ?_
  refine g_iaload hI hb4 rfl (by omega) (fun v454 ev454 lv454 uv454 => ?_)
  refine g_sw (by decide) (fun c455 => ?_) ⟨fun c455 => ?_, fun c455 => ?_, fun c455 => ?_, fun c455 => ?_, fun c455 => ?_, fun c455 => ?_, fun c455 => ?_, fun c455 => ?_, fun c455 => ?_, fun c455 => ?_, trivial⟩
  · refine g_aload_n rfl ?_
    refine g_iload rfl ?_
    refine g_bipush (by decide) (fun v456 kv456 => ?_)
    refine g_invvv hI hw0 rfl rfl rfl rfl (v_87 w hw v449 (by omega) v456 H hI hJ) (fun H457 r458 => ?_)
    obtain ⟨hIH457, hJH457, w459, m460⟩ := r458
    have e461 : k1_1 = fZ H457 1 1 := ek1_1.trans w459.symm
    have m462 : kp54 H H457 := kp54_t mkfr m460
    refine g_nop ?_
    exact g_ret ⟨rfl, hIH457, hJH457, (e461.symm.trans ek1_1), m462⟩
  · refine g_aload_n rfl ?_
    refine g_gfr hI hw0 rfl ?_
    refine g_iload rfl ?_
    refine g_aload_n rfl ?_
    refine g_gfr hI hb0 rfl ?_
    refine g_iload_n rfl ?_
    refine g_iaload hI hb7 rfl (by omega) (fun v463 ev463 lv463 uv463 => ?_)
    refine g_iastore hI hw1 (by omega) (gz_any _) (fun H464 eH464 hIH464 => ?_)
    have hJH464 : JX H464 := JX_sA (by omega) eH464 hJ
    have e465 : k1_1 = fZ H464 1 1 := by rw [eH464, fZ_sA]; exact ek1_1
    have m466 : kp54 H H464 := kp54_A mkfr eH464 (by omega)
    refine g_aload_n rfl ?_
    refine g_iload rfl ?_
    refine g_iload rfl ?_
    refine g_iload_n rfl ?_
    refine g_invvv hIH464 hw0 rfl rfl rfl rfl (v_99 w hw v449 (by omega) v450 a3 H464 hIH464 hJH464) (fun H467 r468 => ?_)
    obtain ⟨hIH467, hJH467, w469, m470⟩ := r468
    have e471 : k1_1 = fZ H467 1 1 := e465.trans w469.symm
    have m472 : kp54 H H467 := kp54_t m466 m470
    refine g_goto ?_
    exact g_ret ⟨rfl, hIH467, hJH467, (e471.symm.trans ek1_1), m472⟩
  · refine g_aload_n rfl ?_
    refine g_gfr hI hw0 rfl ?_
    refine g_iload rfl ?_
    refine g_iload rfl ?_
    refine g_iastore hI hw2 (by omega) (by omega) (fun H473 eH473 hIH473 => ?_)
    have hJH473 : JX H473 := JX_sA (by omega) eH473 hJ
    have e474 : k1_1 = fZ H473 1 1 := by rw [eH473, fZ_sA]; exact ek1_1
    have m475 : kp54 H H473 := kp54_A mkfr eH473 (by omega)
    refine g_goto ?_
    exact g_ret ⟨rfl, hIH473, hJH473, (e474.symm.trans ek1_1), m475⟩
  · refine g_aload_n rfl ?_
    refine g_iload rfl ?_
    refine g_invvv hI hw0 rfl rfl rfl rfl (v_100 w hw v449 (by omega) H hI hJ) (fun H476 r477 => ?_)
    obtain ⟨hIH476, hJH476, w478, m479⟩ := r477
    have e480 : k1_1 = fZ H476 1 1 := ek1_1.trans w478.symm
    have m481 : kp54 H H476 := kp54_t mkfr m479
    refine g_aload_n rfl ?_
    refine g_iload rfl ?_
    refine g_aload_n rfl ?_
    refine g_gfr hIH476 hw0 rfl ?_
    refine g_iload rfl ?_
    refine g_iaload hIH476 hw3 rfl (by omega) (fun v482 ev482 lv482 uv482 => ?_)
    refine g_iload_n rfl ?_
    refine g_invvv hIH476 hw0 rfl rfl rfl rfl (v_99 w hw v449 (by omega) v482 a3 H476 hIH476 hJH476) (fun H483 r484 => ?_)
    obtain ⟨hIH483, hJH483, w485, m486⟩ := r484
    have e487 : k1_1 = fZ H483 1 1 := e480.trans w485.symm
    have m488 : kp54 H H483 := kp54_t m481 m486
    refine g_goto ?_
    exact g_ret ⟨rfl, hIH483, hJH483, (e487.symm.trans ek1_1), m488⟩
  · refine g_aload_n rfl ?_
    refine g_iload rfl ?_
    refine g_iconst (by decide) (fun v489 kv489 => ?_)
    refine g_invvv hI hw0 rfl rfl rfl rfl (v_86 w hw v449 (by omega) v489 H hI hJ) (fun H490 r491 => ?_)
    obtain ⟨hIH490, hJH490, w492, m493⟩ := r491
    have e494 : k1_1 = fZ H490 1 1 := ek1_1.trans w492.symm
    have m495 : kp54 H H490 := kp54_t mkfr m493
    refine g_goto ?_
    exact g_ret ⟨rfl, hIH490, hJH490, (e494.symm.trans ek1_1), m495⟩
  · refine g_aload_n rfl ?_
    refine g_iload rfl ?_
    refine g_iconst (by decide) (fun v496 kv496 => ?_)
    refine g_invvv hI hw0 rfl rfl rfl rfl (v_87 w hw v449 (by omega) v496 H hI hJ) (fun H497 r498 => ?_)
    obtain ⟨hIH497, hJH497, w499, m500⟩ := r498
    have e501 : k1_1 = fZ H497 1 1 := ek1_1.trans w499.symm
    have m502 : kp54 H H497 := kp54_t mkfr m500
    refine g_goto ?_
    exact g_ret ⟨rfl, hIH497, hJH497, (e501.symm.trans ek1_1), m502⟩
  · refine g_aload_n rfl ?_
    refine g_iload rfl ?_
    refine g_iload rfl ?_
    refine g_iload_n rfl ?_
    refine g_invvv hI hw0 rfl rfl rfl rfl (v_99 w hw v449 (by omega) v450 a3 H hI hJ) (fun H503 r504 => ?_)
    obtain ⟨hIH503, hJH503, w505, m506⟩ := r504
    have e507 : k1_1 = fZ H503 1 1 := ek1_1.trans w505.symm
    have m508 : kp54 H H503 := kp54_t mkfr m506
    refine g_goto ?_
    exact g_ret ⟨rfl, hIH503, hJH503, (e507.symm.trans ek1_1), m508⟩
  · refine g_aload_n rfl ?_
    refine g_gfr hI hw0 rfl ?_
    refine g_iload rfl ?_
    refine g_iload_n rfl ?_
    refine g_iastore hI hw5 (by omega) (gz_any _) (fun H509 eH509 hIH509 => ?_)
    have hJH509 : JX H509 := JX_sA (by omega) eH509 hJ
    have e510 : k1_1 = fZ H509 1 1 := by rw [eH509, fZ_sA]; exact ek1_1
    have m511 : kp54 H H509 := kp54_A mkfr eH509 (by omega)
    refine g_aload_n rfl ?_
    refine g_aload_n rfl ?_
    refine g_gfr hIH509 hw0 rfl ?_
    refine g_iload rfl ?_
    refine g_iaload hIH509 hw3 rfl (by omega) (fun v512 ev512 lv512 uv512 => ?_)
    refine g_iload rfl ?_
    refine g_if2_ne (fun c513 => ?_) (fun c513 => ?_)
    · refine g_aload_n rfl ?_
      refine g_iload rfl ?_
      refine g_invvi hIH509 hw0 rfl rfl rfl rfl (s_101 w hw v449 (by omega) H509 hIH509 hJH509) (fun v516 H514 r515 => ?_)
      obtain ⟨rfl, bv516⟩ := r515
      refine g_nop ?_
      refine g_iload rfl ?_
      refine g_iload_n rfl ?_
      refine g_invvv hIH509 hw0 rfl rfl rfl rfl (v_99 w hw v516 (by omega) v450 a3 H509 hIH509 hJH509) (fun H517 r518 => ?_)
      obtain ⟨hIH517, hJH517, w519, m520⟩ := r518
      have e521 : k1_1 = fZ H517 1 1 := e510.trans w519.symm
      have m522 : kp54 H H517 := kp54_t m511 m520
      refine g_goto ?_
      exact g_ret ⟨rfl, hIH517, hJH517, (e521.symm.trans ek1_1), m522⟩
    · refine g_iload rfl ?_
      refine g_goto ?_
      refine g_iload rfl ?_
      refine g_iload_n rfl ?_
      refine g_invvv hIH509 hw0 rfl rfl rfl rfl (v_99 w hw v453 (by omega) v450 a3 H509 hIH509 hJH509) (fun H523 r524 => ?_)
      obtain ⟨hIH523, hJH523, w525, m526⟩ := r524
      have e527 : k1_1 = fZ H523 1 1 := e510.trans w525.symm
      have m528 : kp54 H H523 := kp54_t m511 m526
      refine g_goto ?_
      exact g_ret ⟨rfl, hIH523, hJH523, (e527.symm.trans ek1_1), m528⟩
  · refine g_aload_n rfl ?_
    refine g_iload rfl ?_
    refine g_iconst (by decide) (fun v529 kv529 => ?_)
    refine g_invvv hI hw0 rfl rfl rfl rfl (v_86 w hw v449 (by omega) v529 H hI hJ) (fun H530 r531 => ?_)
    obtain ⟨hIH530, hJH530, w532, m533⟩ := r531
    have e534 : k1_1 = fZ H530 1 1 := ek1_1.trans w532.symm
    have m535 : kp54 H H530 := kp54_t mkfr m533
    refine g_goto ?_
    exact g_ret ⟨rfl, hIH530, hJH530, (e534.symm.trans ek1_1), m535⟩
  · refine g_aload_n rfl ?_
    refine g_iload rfl ?_
    refine g_iconst (by decide) (fun v536 kv536 => ?_)
    refine g_invvv hI hw0 rfl rfl rfl rfl (v_87 w hw v449 (by omega) v536 H hI hJ) (fun H537 r538 => ?_)
    obtain ⟨hIH537, hJH537, w539, m540⟩ := r538
    have e541 : k1_1 = fZ H537 1 1 := ek1_1.trans w539.symm
    have m542 : kp54 H H537 := kp54_t mkfr m540
    refine g_aload_n rfl ?_
    refine g_iload rfl ?_
    refine g_iload rfl ?_
    refine g_iload_n rfl ?_
    refine g_invvv hIH537 hw0 rfl rfl rfl rfl (v_99 w hw v449 (by omega) v450 a3 H537 hIH537 hJH537) (fun H543 r544 => ?_)
    obtain ⟨hIH543, hJH543, w545, m546⟩ := r544
    have e547 : k1_1 = fZ H543 1 1 := e541.trans w545.symm
    have m548 : kp54 H H543 := kp54_t m542 m546
    refine g_goto ?_
    exact g_ret ⟨rfl, hIH543, hJH543, (e547.symm.trans ek1_1), m548⟩
  · refine g_aload_n rfl ?_
    refine g_iload rfl ?_
    refine g_invvv hI hw0 rfl rfl rfl rfl (v_100 w hw v449 (by omega) H hI hJ) (fun H549 r550 => ?_)
    obtain ⟨hIH549, hJH549, w551, m552⟩ := r550
    have e553 : k1_1 = fZ H549 1 1 := ek1_1.trans w551.symm
    have m554 : kp54 H H549 := kp54_t mkfr m552
    refine g_aload_n rfl ?_
    refine g_iload rfl ?_
    refine g_invvv hIH549 hw0 rfl rfl rfl rfl (v_102 w hw v449 H549 hIH549 hJH549) (fun H555 r556 => ?_)
    obtain ⟨hIH555, hJH555, w557, m558⟩ := r556
    have e559 : k1_1 = fZ H555 1 1 := e553.trans w557.symm
    have m560 : kp54 H H555 := kp54_t m554 m558
    refine g_goto ?_
    exact g_ret ⟨rfl, hIH555, hJH555, (e559.symm.trans ek1_1), m560⟩
set_option maxRecDepth 4000 in
set_option maxHeartbeats 4000000 in
/-- X8.look -/
theorem v_93 (w : Nat) (hw : zWo w) (b : Nat) (hb : zBo b) (a2 : Int32) (ha2 : 0 ≤ a2.toInt ∧ a2.toInt ≤ 59) (a3 : Int32) (H : mzH) (hI : gI SX H) (hJ : JX H) : gCall 93 [.ref w, .ref b, .int a2, .int a3] H (gRi (fun v H' => gI SX H' ∧ JX H' ∧ fZ H' 1 1 = fZ H 1 1 ∧ kp54 H H')) := by
  obtain ⟨hwr, hw0, hw1, hw2, hw3, hw4, hw5, hw6⟩ := id hw
  obtain ⟨hbr, hb0, hb1, hb2, hb3, hb4, hb5, hb6, hb7⟩ := id hb
  obtain ⟨k1_1, ek1_1⟩ : ∃ z, z = fZ H 1 1 := ⟨_, rfl⟩
  have ik1_1 : k1_1.toInt = (fZ H 1 1).toInt := by rw [← ek1_1]
  have bk1_1 : 0 ≤ k1_1.toInt ∧ k1_1.toInt ≤ 900 := by rw [ek1_1]; exact fZ_of hI sx_1 rfl
  have mkfr : kp54 H H := kp54_r
  refine gG_call [(0, .ref w), (1, .ref b), (2, .int a2), (3, .int a3)] ⟨rfl, rfl, rfl, rfl, trivial⟩ ?_
  show gG 7 zB_93 (mzBlk zB_93 0) [(0, .ref w), (1, .ref b), (2, .int a2), (3, .int a3)] [] H 0 0 _
  refine g_aload_n rfl ?_
  refine g_aload_n rfl ?_
  refine g_iload_n rfl ?_
  refine g_iload_n rfl ?_
  refine g_invvi hI hw0 rfl rfl rfl rfl (s_94 w hw b hb a2 (by omega) a3 H hI hJ) (fun v191 H189 r190 => ?_)
  obtain rfl := r190
  refine g_istore (l' := [(0, .ref w), (1, .ref b), (2, .int a2), (3, .int a3), (4, .int v191)]) rfl rfl ?_
  refine g_aload_n rfl ?_
  refine g_gfr hI hb0 rfl ?_
  refine g_iload_n rfl ?_
  refine g_iaload hI hb5 rfl (by omega) (fun v192 ev192 lv192 uv192 => ?_)
  refine g_istore (l' := [(0, .ref w), (1, .ref b), (2, .int a2), (3, .int a3), (4, .int v191), (5, .int v192)]) rfl rfl ?_
  refine g_aload_n rfl ?_
  refine g_gfr hI hb0 rfl ?_
  refine g_iload_n rfl ?_
  refine g_iaload hI hb4 rfl (by omega) (fun v193 ev193 lv193 uv193 => ?_)
  refine g_istore (l' := [(0, .ref w), (1, .ref b), (2, .int a2), (3, .int a3), (4, .int v191), (5, .int v192), (6, .int v193)]) rfl rfl ?_
  refine g_iload rfl ?_
  refine g_if_ne (fun c194 => ?_) (fun c194 => ?_)
  · refine g_iload rfl ?_
    refine g_if_ne (fun c195 => ?_) (fun c195 => ?_)
    · refine g_iload rfl ?_
      refine g_bipush (by decide) (fun v196 kv196 => ?_)
      refine g_if2_ne (fun c197 => ?_) (fun c197 => ?_)
      · refine g_iload rfl ?_
        exact g_iret ⟨_, rfl, hI, hJ, (ek1_1.symm.trans ek1_1), mkfr⟩
      · refine g_iload rfl ?_
        refine g_bipush (by decide) (fun v198 kv198 => ?_)
        refine g_if2_eq (fun c199 => ?_) (fun c199 => ?_)
        · refine g_aload_n rfl ?_
          refine g_iload rfl ?_
          refine g_bipush (by decide) (fun v200 kv200 => ?_)
          refine g_invvv hI hw0 rfl rfl rfl rfl (v_86 w hw v192 (by omega) v200 H hI hJ) (fun H201 r202 => ?_)
          obtain ⟨hIH201, hJH201, w203, m204⟩ := r202
          have e205 : k1_1 = fZ H201 1 1 := ek1_1.trans w203.symm
          have m206 : kp54 H H201 := kp54_t mkfr m204
          refine g_nop ?_
          refine g_iload rfl ?_
          exact g_iret ⟨_, rfl, hIH201, hJH201, (e205.symm.trans ek1_1), m206⟩
        · refine g_iload rfl ?_
          refine g_bipush (by decide) (fun v207 kv207 => ?_)
          refine g_if2_ne (fun c208 => ?_) (fun c208 => ?_)
          · refine g_iload rfl ?_
            exact g_iret ⟨_, rfl, hI, hJ, (ek1_1.symm.trans ek1_1), mkfr⟩
          · refine g_nop ?_
            refine g_aload_n rfl ?_
            refine g_iload rfl ?_
            refine g_bipush (by decide) (fun v209 kv209 => ?_)
            refine g_invvv hI hw0 rfl rfl rfl rfl (v_86 w hw v192 (by omega) v209 H hI hJ) (fun H210 r211 => ?_)
            obtain ⟨hIH210, hJH210, w212, m213⟩ := r211
            have e214 : k1_1 = fZ H210 1 1 := ek1_1.trans w212.symm
            have m215 : kp54 H H210 := kp54_t mkfr m213
            refine g_nop ?_
            refine g_iload rfl ?_
            exact g_iret ⟨_, rfl, hIH210, hJH210, (e214.symm.trans ek1_1), m215⟩
    · refine g_aload_n rfl ?_
      refine g_iload rfl ?_
      refine g_iconst (by decide) (fun v216 kv216 => ?_)
      refine g_invvi hI hw0 rfl rfl rfl rfl (s_85 w hw v192 (by omega) v216 H hI hJ) (fun v219 H217 r218 => ?_)
      obtain ⟨rfl, bv219⟩ := r218
      refine g_if_ne (fun c220 => ?_) (fun c220 => ?_)
      · refine g_iload rfl ?_
        refine g_bipush (by decide) (fun v221 kv221 => ?_)
        refine g_if2_ne (fun c222 => ?_) (fun c222 => ?_)
        · refine g_iload rfl ?_
          exact g_iret ⟨_, rfl, hI, hJ, (ek1_1.symm.trans ek1_1), mkfr⟩
        · exfalso; omega
      · refine g_aload_n rfl ?_
        refine g_iload rfl ?_
        refine g_bipush (by decide) (fun v223 kv223 => ?_)
        refine g_invvv hI hw0 rfl rfl rfl rfl (v_86 w hw v192 (by omega) v223 H hI hJ) (fun H224 r225 => ?_)
        obtain ⟨hIH224, hJH224, w226, m227⟩ := r225
        have e228 : k1_1 = fZ H224 1 1 := ek1_1.trans w226.symm
        have m229 : kp54 H H224 := kp54_t mkfr m227
        refine g_goto ?_
        refine g_iload rfl ?_
        exact g_iret ⟨_, rfl, hIH224, hJH224, (e228.symm.trans ek1_1), m229⟩
  · refine g_aload_n rfl ?_
    refine g_aload_n rfl ?_
    refine g_iload_n rfl ?_
    refine g_iload_n rfl ?_
    refine g_invvv hI hw0 rfl rfl rfl rfl (v_98 w hw b hb a2 (by omega) a3 H hI hJ) (fun H230 r231 => ?_)
    obtain ⟨hIH230, hJH230, w232, m233⟩ := r231
    have e234 : k1_1 = fZ H230 1 1 := ek1_1.trans w232.symm
    have m235 : kp54 H H230 := kp54_t mkfr m233
    refine g_goto ?_
    refine g_iload rfl ?_
    exact g_iret ⟨_, rfl, hIH230, hJH230, (e234.symm.trans ek1_1), m235⟩
set_option maxRecDepth 4000 in
set_option maxHeartbeats 4000000 in
/-- X0.refusedBehind -/
theorem v_6 (a1 : Int32) (ha1 : 0 ≤ a1.toInt ∧ a1.toInt ≤ 59) (a2 : Int32) (a3 : Int32) (H : mzH) (hI : gI SX H) (hJ : JX H) : gCall 6 [.ref 54, .int a1, .int a2, .int a3] H (gRi (fun v H' => gI SX H' ∧ JX H' ∧ fZ H' 1 1 = fZ H 1 1 ∧ kp54 H H')) := by
  obtain ⟨k1_1, ek1_1⟩ : ∃ z, z = fZ H 1 1 := ⟨_, rfl⟩
  have ik1_1 : k1_1.toInt = (fZ H 1 1).toInt := by rw [← ek1_1]
  have bk1_1 : 0 ≤ k1_1.toInt ∧ k1_1.toInt ≤ 900 := by rw [ek1_1]; exact fZ_of hI sx_1 rfl
  have mkfr : kp54 H H := kp54_r
  refine gG_call [(0, .ref 54), (1, .int a1), (2, .int a2), (3, .int a3)] ⟨rfl, rfl, rfl, rfl, trivial⟩ ?_
  show gG 6 zB_6 (mzBlk zB_6 0) [(0, .ref 54), (1, .int a1), (2, .int a2), (3, .int a3)] [] H 0 0 _
  refine g_iload_n rfl ?_
  refine g_istore (l' := [(0, .ref 54), (1, .int a1), (2, .int a2), (3, .int a3), (4, .int a2)]) rfl rfl ?_
  refine g_iload_n rfl ?_
  refine g_iconst (by decide) (fun v109 kv109 => ?_)
  refine g_iadd (by omega) (fun v110 ev110 => ?_)
  refine g_istore (l' := [(0, .ref 54), (1, .int a1), (2, .int a2), (3, .int a3), (4, .int a2), (5, .int v110)]) rfl rfl ?_
  refine g_nop ?_
  have L116 : ∀ (N : Nat) (v111 : Int32) (v112 : Int32) (H113 : mzH), gI SX H113 → JX H113 → k1_1 = fZ H113 1 1 → kp54 H H113 → (1 ≤ v112.toInt ∧ v112.toInt ≤ 60) → (60 - v112.toInt).toNat < N → gG 6 zB_6 (mzBlk zB_6 1) [(0, .ref 54), (1, .int a1), (2, .int a2), (3, .int a3), (4, .int v111), (5, .int v112)] [] H113 0 0 (gRi (fun v H' => gI SX H' ∧ JX H' ∧ fZ H' 1 1 = fZ H 1 1 ∧ kp54 H H')) := by
    intro N
    induction N with
    | zero => intro v111 v112 H113 hIH113 hJH113 e114 m115 bv112 hmL116; exact absurd hmL116 (Nat.not_lt_zero _)
    | succ N ihL116 =>
      intro v111 v112 H113 hIH113 hJH113 e114 m115 bv112 hmL116
      refine g_iload rfl ?_
      refine g_aload_n rfl ?_
      refine g_gfr hIH113 sx_54 rfl ?_
      refine g_gfi hIH113 sx_25 rfl (fun v117 ev117 lv117 uv117 => ?_)
      refine g_if2_ge (fun c118 => ?_) (fun c118 => ?_)
      · refine g_iload rfl ?_
        exact g_iret ⟨_, rfl, hIH113, hJH113, (e114.symm.trans ek1_1), m115⟩
      · refine g_iload rfl ?_
        refine g_iload_n rfl ?_
        refine g_if2_gt (fun c119 => ?_) (fun c119 => ?_)
        · refine g_iload rfl ?_
          exact g_iret ⟨_, rfl, hIH113, hJH113, (e114.symm.trans ek1_1), m115⟩
        · refine g_iload rfl ?_
          refine g_aload_n rfl ?_
          refine g_gfr hIH113 sx_54 rfl ?_
          refine g_aload_n rfl ?_
          refine g_gfr hIH113 sx_54 rfl ?_
          refine g_aload_n rfl ?_
          refine g_gfr hIH113 sx_54 rfl ?_
          refine g_gfr hIH113 sx_25 rfl ?_
          refine g_iload rfl ?_
          refine g_iaload hIH113 sx_27 rfl (by omega) (fun v120 ev120 lv120 uv120 => ?_)
          refine g_aload_n rfl ?_
          refine g_gfr hIH113 sx_54 rfl ?_
          refine g_iload rfl ?_
          refine g_invvi hIH113 sx_25 rfl rfl rfl rfl (s_27 25 zCo_25 v112 (by omega) H113 hIH113 hJH113) (fun v123 H121 r122 => ?_)
          obtain rfl := r122
          refine g_invvi hIH113 sx_69 rfl rfl rfl rfl (v_93 69 zWo_69 3 zBo_3 v120 (by omega) v123 H113 hIH113 hJH113) (fun v126 H124 r125 => ?_)
          obtain ⟨hIH124, hJH124, w127, m128⟩ := r125
          have e129 : k1_1 = fZ H124 1 1 := e114.trans w127.symm
          have m130 : kp54 H H124 := kp54_t m115 m128
          refine g_if_eq (fun c131 => ?_) (fun c131 => ?_)
          · refine g_iconst (by decide) (fun v132 kv132 => ?_)
            refine g_nop ?_
            refine g_iadd (by have := gz_any v111; omega) (fun v133 ev133 => ?_)
            refine g_istore (l' := [(0, .ref 54), (1, .int a1), (2, .int a2), (3, .int a3), (4, .int v133), (5, .int v112)]) rfl rfl ?_
            refine g_iinc (l' := (fun v134 => [(0, .ref 54), (1, .int a1), (2, .int a2), (3, .int a3), (4, .int v133), (5, .int v134)])) rfl rfl (by decide) (by omega) (fun _ => rfl) (fun v134 ev134 => ?_)
            refine g_goto ?_
            exact ihL116 v133 v134 H124 hIH124 hJH124 e129 m130 (by omega) (by omega)
          · refine g_iconst (by decide) (fun v135 kv135 => ?_)
            refine g_goto ?_
            refine g_iadd' (fun v136 ov136 => ?_)
            refine g_istore (l' := [(0, .ref 54), (1, .int a1), (2, .int a2), (3, .int a3), (4, .int v136), (5, .int v112)]) rfl rfl ?_
            refine g_iinc (l' := (fun v137 => [(0, .ref 54), (1, .int a1), (2, .int a2), (3, .int a3), (4, .int v136), (5, .int v137)])) rfl rfl (by decide) (by omega) (fun _ => rfl) (fun v137 ev137 => ?_)
            refine g_goto ?_
            exact ihL116 v136 v137 H124 hIH124 hJH124 e129 m130 (by omega) (by omega)
  exact L116 _ a2 v110 H hI hJ ek1_1 mkfr (by omega) (Nat.lt_succ_self _)
set_option maxRecDepth 4000 in
set_option maxHeartbeats 4000000 in
/-- X0.refusalAt -/
theorem v_7 (a1 : Int32) (ha1 : 0 ≤ a1.toInt ∧ a1.toInt ≤ 59) (w : Nat) (hw : zWo w) (H : mzH) (hI : gI SX H) (hJ : JX H) : gCall 7 [.ref 54, .int a1, .ref w] H (gRi (fun v H' => gI SX H' ∧ JX H' ∧ (0 ≤ v.toInt ∧ v.toInt ≤ 1) ∧ fZ H' 1 1 = fZ H 1 1 ∧ kp54 H H')) := by
  obtain ⟨hwr, hw0, hw1, hw2, hw3, hw4, hw5, hw6⟩ := id hw
  obtain ⟨k1_1, ek1_1⟩ : ∃ z, z = fZ H 1 1 := ⟨_, rfl⟩
  have ik1_1 : k1_1.toInt = (fZ H 1 1).toInt := by rw [← ek1_1]
  have bk1_1 : 0 ≤ k1_1.toInt ∧ k1_1.toInt ≤ 900 := by rw [ek1_1]; exact fZ_of hI sx_1 rfl
  have mkfr : kp54 H H := kp54_r
  refine gG_call [(0, .ref 54), (1, .int a1), (2, .ref w)] ⟨rfl, rfl, rfl, trivial⟩ ?_
  show gG 3 zB_7 (mzBlk zB_7 0) [(0, .ref 54), (1, .int a1), (2, .ref w)] [] H 0 0 _
  refine g_aload_n rfl ?_
  refine g_aload_n rfl ?_
  refine g_gfr hI sx_54 rfl ?_
  refine g_aload_n rfl ?_
  refine g_gfr hI sx_54 rfl ?_
  refine g_gfr hI sx_25 rfl ?_
  refine g_iload_n rfl ?_
  refine g_iaload hI sx_27 rfl (by omega) (fun v57 ev57 lv57 uv57 => ?_)
  refine g_aload_n rfl ?_
  refine g_gfr hI sx_54 rfl ?_
  refine g_iload_n rfl ?_
  refine g_invvi hI sx_25 rfl rfl rfl rfl (s_27 25 zCo_25 a1 (by omega) H hI hJ) (fun v60 H58 r59 => ?_)
  obtain rfl := r59
  refine g_invvi hI hw0 rfl rfl rfl rfl (v_93 w hw 3 zBo_3 v57 (by omega) v60 H hI hJ) (fun v63 H61 r62 => ?_)
  obtain ⟨hIH61, hJH61, w64, m65⟩ := r62
  have e66 : k1_1 = fZ H61 1 1 := ek1_1.trans w64.symm
  have m67 : kp54 H H61 := kp54_t mkfr m65
  refine g_if_eq (fun c68 => ?_) (fun c68 => ?_)
  · refine g_iconst (by decide) (fun v69 kv69 => ?_)
    refine g_nop ?_
    exact g_iret ⟨_, rfl, hIH61, hJH61, (by omega), (e66.symm.trans ek1_1), m67⟩
  · refine g_iconst (by decide) (fun v70 kv70 => ?_)
    refine g_goto ?_
    exact g_iret ⟨_, rfl, hIH61, hJH61, (by omega), (e66.symm.trans ek1_1), m67⟩
set_option maxRecDepth 4000 in
set_option maxHeartbeats 4000000 in
/-- X2.takeHours -/
theorem v_24 (c : Nat) (hc : zCo c) (b : Nat) (hb : zBo b) (H : mzH) (hI : gI SX H) (hJ : JX H) : gCall 24 [.ref c, .ref b] H (gRv (fun H' => gI SX H' ∧ JX H' ∧ fZ H' 1 1 = fZ H 1 1 ∧ kp54 H H')) := by
  obtain ⟨hcr, hc0, hc1, hc2⟩ := id hc
  obtain ⟨hbr, hb0, hb1, hb2, hb3, hb4, hb5, hb6, hb7⟩ := id hb
  obtain ⟨k1_1, ek1_1⟩ : ∃ z, z = fZ H 1 1 := ⟨_, rfl⟩
  have ik1_1 : k1_1.toInt = (fZ H 1 1).toInt := by rw [← ek1_1]
  have bk1_1 : 0 ≤ k1_1.toInt ∧ k1_1.toInt ≤ 900 := by rw [ek1_1]; exact fZ_of hI sx_1 rfl
  have mkfr : kp54 H H := kp54_r
  refine gG_call [(0, .ref c), (1, .ref b)] ⟨rfl, rfl, trivial⟩ ?_
  show gG 2 zB_24 (mzBlk zB_24 0) [(0, .ref c), (1, .ref b)] [] H 0 0 _
  refine g_aload_n rfl ?_
  refine g_aload_n rfl ?_
  refine g_gfi hI hb0 rfl (fun v41 ev41 lv41 uv41 => ?_)
  refine g_pfi hI hc0 rfl (by omega) (fun H42 eH42 hIH42 => ?_)
  have hJH42 : JX H42 := JX_sF eH42 hJ
  have e43 : k1_1 = fZ H42 1 1 := by rw [eH42, fZ_sF_nc (by omega)]; exact ek1_1
  have m44 : kp54 H H42 := kp54_F mkfr eH42 (by omega)
  refine g_aload_n rfl ?_
  refine g_gfr hIH42 hb0 rfl ?_
  refine g_iconst (by decide) (fun v45 kv45 => ?_)
  refine g_aload_n rfl ?_
  refine g_gfr hIH42 hc0 rfl ?_
  refine g_iconst (by decide) (fun v46 kv46 => ?_)
  refine g_bipush (by decide) (fun v47 kv47 => ?_)
  refine g_acp hIH42 hc1 hb3 (by decide) (by decide) (by omega) (by omega) (by omega) rfl (fun H48 eH48 hIH48 => ?_)
  have hJH48 : JX H48 := JX_sC (by omega) eH48 hJH42
  have e49 : k1_1 = fZ H48 1 1 := by rw [eH48, fZ_sC hIH42 hc1 hb3]; exact e43
  have m50 : kp54 H H48 := kp54_C hIH42 hc1 hb3 m44 eH48 (by omega)
  exact g_ret ⟨rfl, hIH48, hJH48, (e49.symm.trans ek1_1), m50⟩
set_option maxRecDepth 4000 in
set_option maxHeartbeats 4000000 in
/-- X2.arrange -/
theorem v_25 (c : Nat) (hc : zCo c) (H : mzH) (hI : gI SX H) (hJ : JX H) : gCall 25 [.ref c] H (gRv (fun H' => gI SX H' ∧ JX H' ∧ fZ H' 1 1 = fZ H 1 1 ∧ kp54 H H')) := by
  obtain ⟨hcr, hc0, hc1, hc2⟩ := id hc
  obtain ⟨k1_1, ek1_1⟩ : ∃ z, z = fZ H 1 1 := ⟨_, rfl⟩
  have ik1_1 : k1_1.toInt = (fZ H 1 1).toInt := by rw [← ek1_1]
  have bk1_1 : 0 ≤ k1_1.toInt ∧ k1_1.toInt ≤ 900 := by rw [ek1_1]; exact fZ_of hI sx_1 rfl
  have mkfr : kp54 H H := kp54_r
  refine gG_call [(0, .ref c)] ⟨rfl, trivial⟩ ?_
  show gG 3 zB_25 (mzBlk zB_25 0) [(0, .ref c)] [] H 0 0 _
  refine g_iconst (by decide) (fun v305 kv305 => ?_)
  refine g_istore_n (l' := [(0, .ref c), (1, .int v305)]) rfl rfl ?_
  refine g_nop ?_
  have L310 : ∀ (N : Nat) (v306 : Int32) (H307 : mzH), gI SX H307 → JX H307 → k1_1 = fZ H307 1 1 → kp54 H H307 → (0 ≤ v306.toInt ∧ v306.toInt ≤ 60) → (60 - v306.toInt).toNat < N → gG 3 zB_25 (mzBlk zB_25 1) [(0, .ref c), (1, .int v306)] [] H307 0 0 (gRv (fun H' => gI SX H' ∧ JX H' ∧ fZ H' 1 1 = fZ H 1 1 ∧ kp54 H H')) := by
    intro N
    induction N with
    | zero => intro v306 H307 hIH307 hJH307 e308 m309 bv306 hmL310; exact absurd hmL310 (Nat.not_lt_zero _)
    | succ N ihL310 =>
      intro v306 H307 hIH307 hJH307 e308 m309 bv306 hmL310
      refine g_iload_n rfl ?_
      refine g_aload_n rfl ?_
      refine g_gfi hIH307 hc0 rfl (fun v311 ev311 lv311 uv311 => ?_)
      refine g_if2_ge (fun c312 => ?_) (fun c312 => ?_)
      · exact g_ret ⟨rfl, hIH307, hJH307, (e308.symm.trans ek1_1), m309⟩
      · refine g_iload_n rfl ?_
        refine g_istore_n (l' := [(0, .ref c), (1, .int v306), (2, .int v306)]) rfl rfl ?_
        refine g_nop ?_
        have L317 : ∀ (N : Nat) (v313 : Int32) (H314 : mzH), gI SX H314 → JX H314 → k1_1 = fZ H314 1 1 → kp54 H H314 → (0 ≤ v313.toInt ∧ v313.toInt ≤ 59) → (v313.toInt - (0)).toNat < N → gG 3 zB_25 (mzBlk zB_25 2) [(0, .ref c), (1, .int v306), (2, .int v313)] [] H314 0 0 (gRv (fun H' => gI SX H' ∧ JX H' ∧ fZ H' 1 1 = fZ H 1 1 ∧ kp54 H H')) := by
          intro N
          induction N with
          | zero => intro v313 H314 hIH314 hJH314 e315 m316 bv313 hmL317; exact absurd hmL317 (Nat.not_lt_zero _)
          | succ N ihL317 =>
            intro v313 H314 hIH314 hJH314 e315 m316 bv313 hmL317
            refine g_iload_n rfl ?_
            refine g_if_le (fun c318 => ?_) (fun c318 => ?_)
            · refine g_aload_n rfl ?_
              refine g_gfr hIH314 hc0 rfl ?_
              refine g_iload_n rfl ?_
              refine g_iload_n rfl ?_
              refine g_iastore hIH314 hc2 (by omega) (by omega) (fun H319 eH319 hIH319 => ?_)
              have hJH319 : JX H319 := JX_sA (by omega) eH319 hJH314
              have e320 : k1_1 = fZ H319 1 1 := by rw [eH319, fZ_sA]; exact e315
              have m321 : kp54 H H319 := kp54_A m316 eH319 (by omega)
              refine g_iinc (l' := (fun v322 => [(0, .ref c), (1, .int v322), (2, .int v313)])) rfl rfl (by decide) (by omega) (fun _ => rfl) (fun v322 ev322 => ?_)
              refine g_goto ?_
              refine gG_pick [0, 1] (l' := [(0, .ref c), (1, .int v322)]) rfl ?_
              exact ihL310 v322 H319 hIH319 hJH319 e320 m321 (by omega) (by omega)
            · refine g_aload_n rfl ?_
              refine g_gfr hIH314 hc0 rfl ?_
              refine g_aload_n rfl ?_
              refine g_gfr hIH314 hc0 rfl ?_
              refine g_iload_n rfl ?_
              refine g_iconst (by decide) (fun v323 kv323 => ?_)
              refine g_isub (by omega) (fun v324 ev324 => ?_)
              refine g_iaload hIH314 hc2 rfl (by omega) (fun v325 ev325 lv325 uv325 => ?_)
              refine g_iaload hIH314 hc1 rfl (by omega) (fun v326 ev326 lv326 uv326 => ?_)
              refine g_aload_n rfl ?_
              refine g_gfr hIH314 hc0 rfl ?_
              refine g_iload_n rfl ?_
              refine g_iaload hIH314 hc1 rfl (by omega) (fun v327 ev327 lv327 uv327 => ?_)
              refine g_if2_le (fun c328 => ?_) (fun c328 => ?_)
              · refine g_aload_n rfl ?_
                refine g_gfr hIH314 hc0 rfl ?_
                refine g_iload_n rfl ?_
                refine g_iload_n rfl ?_
                refine g_iastore hIH314 hc2 (by omega) (by omega) (fun H329 eH329 hIH329 => ?_)
                have hJH329 : JX H329 := JX_sA (by omega) eH329 hJH314
                have e330 : k1_1 = fZ H329 1 1 := by rw [eH329, fZ_sA]; exact e315
                have m331 : kp54 H H329 := kp54_A m316 eH329 (by omega)
                refine g_iinc (l' := (fun v332 => [(0, .ref c), (1, .int v332), (2, .int v313)])) rfl rfl (by decide) (by omega) (fun _ => rfl) (fun v332 ev332 => ?_)
                refine g_goto ?_
                refine gG_pick [0, 1] (l' := [(0, .ref c), (1, .int v332)]) rfl ?_
                exact ihL310 v332 H329 hIH329 hJH329 e330 m331 (by omega) (by omega)
              · refine g_aload_n rfl ?_
                refine g_gfr hIH314 hc0 rfl ?_
                refine g_iload_n rfl ?_
                refine g_aload_n rfl ?_
                refine g_gfr hIH314 hc0 rfl ?_
                refine g_iload_n rfl ?_
                refine g_iconst (by decide) (fun v333 kv333 => ?_)
                refine g_isub (by omega) (fun v334 ev334 => ?_)
                refine g_iaload hIH314 hc2 rfl (by omega) (fun v335 ev335 lv335 uv335 => ?_)
                refine g_iastore hIH314 hc2 (by omega) (by omega) (fun H336 eH336 hIH336 => ?_)
                have hJH336 : JX H336 := JX_sA (by omega) eH336 hJH314
                have e337 : k1_1 = fZ H336 1 1 := by rw [eH336, fZ_sA]; exact e315
                have m338 : kp54 H H336 := kp54_A m316 eH336 (by omega)
                refine g_iinc (l' := (fun v339 => [(0, .ref c), (1, .int v306), (2, .int v339)])) rfl rfl (by decide) (by omega) (fun _ => rfl) (fun v339 ev339 => ?_)
                refine g_goto ?_
                exact ihL317 v339 H336 hIH336 hJH336 e337 m338 (by omega) (by omega)
        exact L317 _ v306 H307 hIH307 hJH307 e308 m309 (by omega) (Nat.lt_succ_self _)
  exact L310 _ v305 H hI hJ ek1_1 mkfr (by omega) (Nat.lt_succ_self _)
set_option maxRecDepth 4000 in
set_option maxHeartbeats 4000000 in
/-- X3.lastVerdictWithout -/
theorem v_30 (a1 : Int32) (a2 : Int32) (H : mzH) (hI : gI SX H) (hJ : JX H) : gCall 30 [.ref 43, .int a1, .int a2] H (gRi (fun v H' => gI SX H' ∧ JX H' ∧ fZ H' 1 1 = fZ H 1 1 ∧ kp54 H H')) := by
  obtain ⟨k1_1, ek1_1⟩ : ∃ z, z = fZ H 1 1 := ⟨_, rfl⟩
  have ik1_1 : k1_1.toInt = (fZ H 1 1).toInt := by rw [← ek1_1]
  have bk1_1 : 0 ≤ k1_1.toInt ∧ k1_1.toInt ≤ 900 := by rw [ek1_1]; exact fZ_of hI sx_1 rfl
  have mkfr : kp54 H H := kp54_r
  refine gG_call [(0, .ref 43), (1, .int a1), (2, .int a2)] ⟨rfl, rfl, rfl, trivial⟩ ?_
  show gG 6 zB_30 (mzBlk zB_30 0) [(0, .ref 43), (1, .int a1), (2, .int a2)] [] H 0 0 _
  refine g_aload_n rfl ?_
  refine g_gfr hI sx_43 rfl ?_
  refine g_invvv hI sx_44 rfl rfl rfl rfl (v_83 44 zWo_44 H hI hJ) (fun H285 r286 => ?_)
  obtain ⟨hIH285, hJH285, w287, m288⟩ := r286
  have e289 : k1_1 = fZ H285 1 1 := ek1_1.trans w287.symm
  have m290 : kp54 H H285 := kp54_t mkfr m288
  refine g_iconst (by decide) (fun v291 kv291 => ?_)
  refine g_istore_n (l' := [(0, .ref 43), (1, .int a1), (2, .int a2), (3, .int v291)]) rfl rfl ?_
  refine g_iconst (by decide) (fun v292 kv292 => ?_)
  refine g_istore (l' := [(0, .ref 43), (1, .int a1), (2, .int a2), (3, .int v291), (4, .int v292)]) rfl rfl ?_
  refine g_nop ?_
  have L298 : ∀ (N : Nat) (v293 : Int32) (v294 : Int32) (H295 : mzH), gI SX H295 → JX H295 → k1_1 = fZ H295 1 1 → kp54 H H295 → (0 ≤ v294.toInt ∧ v294.toInt ≤ 60) → (60 - v294.toInt).toNat < N → gG 6 zB_30 (mzBlk zB_30 1) [(0, .ref 43), (1, .int a1), (2, .int a2), (3, .int v293), (4, .int v294)] [] H295 0 0 (gRi (fun v H' => gI SX H' ∧ JX H' ∧ fZ H' 1 1 = fZ H 1 1 ∧ kp54 H H')) := by
    intro N
    induction N with
    | zero => intro v293 v294 H295 hIH295 hJH295 e296 m297 bv294 hmL298; exact absurd hmL298 (Nat.not_lt_zero _)
    | succ N ihL298 =>
      intro v293 v294 H295 hIH295 hJH295 e296 m297 bv294 hmL298
      refine g_iload rfl ?_
      refine g_iload_n rfl ?_
      refine g_if2_gt (fun c299 => ?_) (fun c299 => ?_)
      · refine g_iload_n rfl ?_
        exact g_iret ⟨_, rfl, hIH295, hJH295, (e296.symm.trans ek1_1), m297⟩
      · refine g_iload rfl ?_
        refine g_aload_n rfl ?_
        refine g_gfr hIH295 sx_43 rfl ?_
        refine g_gfr hIH295 sx_24 rfl ?_
        refine g_gfi hIH295 sx_25 rfl (fun v300 ev300 lv300 uv300 => ?_)
        refine g_if2_ge (fun c301 => ?_) (fun c301 => ?_)
        · refine g_iload_n rfl ?_
          exact g_iret ⟨_, rfl, hIH295, hJH295, (e296.symm.trans ek1_1), m297⟩
        · refine g_aload_n rfl ?_
          refine g_gfr hIH295 sx_43 rfl ?_
          refine g_gfr hIH295 sx_24 rfl ?_
          refine g_gfr hIH295 sx_25 rfl ?_
          refine g_iload rfl ?_
          refine g_iaload hIH295 sx_27 rfl (by omega) (fun v302 ev302 lv302 uv302 => ?_)
          refine g_istore (l' := [(0, .ref 43), (1, .int a1), (2, .int a2), (3, .int v293), (4, .int v294), (5, .int v302)]) rfl rfl ?_
          refine g_iload rfl ?_
          refine g_iload_n rfl ?_
          refine g_if2_eq (fun c303 => ?_) (fun c303 => ?_)
          · refine g_iinc (l' := (fun v304 => [(0, .ref 43), (1, .int a1), (2, .int a2), (3, .int v293), (4, .int v304), (5, .int v302)])) rfl rfl (by decide) (by omega) (fun _ => rfl) (fun v304 ev304 => ?_)
            refine g_goto ?_
            refine gG_pick [0, 1, 2, 3, 4] (l' := [(0, .ref 43), (1, .int a1), (2, .int a2), (3, .int v293), (4, .int v304)]) rfl ?_
            exact ihL298 v293 v304 H295 hIH295 hJH295 e296 m297 (by omega) (by omega)
          · refine g_aload_n rfl ?_
            refine g_gfr hIH295 sx_43 rfl ?_
            refine g_aload_n rfl ?_
            refine g_gfr hIH295 sx_43 rfl ?_
            refine g_iload rfl ?_
            refine g_aload_n rfl ?_
            refine g_gfr hIH295 sx_43 rfl ?_
            refine g_gfr hIH295 sx_3 rfl ?_
            refine g_iload rfl ?_
            refine g_iaload hIH295 sx_6 rfl (by omega) (fun v305 ev305 lv305 uv305 => ?_)
            refine g_invvi hIH295 sx_44 rfl rfl rfl rfl (v_93 44 zWo_44 3 zBo_3 v302 (by omega) v305 H295 hIH295 hJH295) (fun v308 H306 r307 => ?_)
            obtain ⟨hIH306, hJH306, w309, m310⟩ := r307
            have e311 : k1_1 = fZ H306 1 1 := e296.trans w309.symm
            have m312 : kp54 H H306 := kp54_t m297 m310
            refine g_istore_n (l' := [(0, .ref 43), (1, .int a1), (2, .int a2), (3, .int v308), (4, .int v294), (5, .int v302)]) rfl rfl ?_
            refine g_nop ?_
            refine g_iinc (l' := (fun v313 => [(0, .ref 43), (1, .int a1), (2, .int a2), (3, .int v308), (4, .int v313), (5, .int v302)])) rfl rfl (by decide) (by omega) (fun _ => rfl) (fun v313 ev313 => ?_)
            refine g_goto ?_
            refine gG_pick [0, 1, 2, 3, 4] (l' := [(0, .ref 43), (1, .int a1), (2, .int a2), (3, .int v308), (4, .int v313)]) rfl ?_
            exact ihL298 v308 v313 H306 hIH306 hJH306 e311 m312 (by omega) (by omega)
  exact L298 _ v291 v292 H285 hIH285 hJH285 e289 m290 (by omega) (Nat.lt_succ_self _)
set_option maxRecDepth 4000 in
set_option maxHeartbeats 4000000 in
/-- X3.placeWithout -/
theorem v_29 (a1 : Int32) (a2 : Int32) (ha2 : 0 ≤ a2.toInt ∧ a2.toInt ≤ 39) (H : mzH) (hI : gI SX H) (hJ : JX H) : gCall 29 [.ref 43, .int a1, .int a2] H (gRi (fun v H' => gI SX H' ∧ JX H' ∧ fZ H' 1 1 = fZ H 1 1 ∧ kp54 H H')) := by
  obtain ⟨k1_1, ek1_1⟩ : ∃ z, z = fZ H 1 1 := ⟨_, rfl⟩
  have ik1_1 : k1_1.toInt = (fZ H 1 1).toInt := by rw [← ek1_1]
  have bk1_1 : 0 ≤ k1_1.toInt ∧ k1_1.toInt ≤ 900 := by rw [ek1_1]; exact fZ_of hI sx_1 rfl
  have mkfr : kp54 H H := kp54_r
  refine gG_call [(0, .ref 43), (1, .int a1), (2, .int a2)] ⟨rfl, rfl, rfl, trivial⟩ ?_
  show gG 3 zB_29 (mzBlk zB_29 0) [(0, .ref 43), (1, .int a1), (2, .int a2)] [] H 0 0 _
  refine g_aload_n rfl ?_
  refine g_iload_n rfl ?_
  refine g_aload_n rfl ?_
  refine g_gfr hI sx_43 rfl ?_
  refine g_gfr hI sx_24 rfl ?_
  refine g_gfi hI sx_25 rfl (fun v53 ev53 lv53 uv53 => ?_)
  refine g_iconst (by decide) (fun v54 kv54 => ?_)
  refine g_isub (by omega) (fun v55 ev55 => ?_)
  refine g_invvi hI sx_43 rfl rfl rfl rfl (v_30 a1 v55 H hI hJ) (fun v58 H56 r57 => ?_)
  obtain ⟨hIH56, hJH56, w59, m60⟩ := r57
  have e61 : k1_1 = fZ H56 1 1 := ek1_1.trans w59.symm
  have m62 : kp54 H H56 := kp54_t mkfr m60
  refine g_pop rfl ?_
  refine g_aload_n rfl ?_
  refine g_gfr hIH56 sx_43 rfl ?_
  refine g_iload_n rfl ?_
  refine g_invvi hIH56 sx_44 rfl rfl rfl rfl (s_91 44 zWo_44 a2 (by omega) H56 hIH56 hJH56) (fun v65 H63 r64 => ?_)
  obtain rfl := r64
  exact g_iret ⟨_, rfl, hIH56, hJH56, (e61.symm.trans ek1_1), m62⟩
set_option maxRecDepth 4000 in
set_option maxHeartbeats 4000000 in
/-- X3.deciding -/
theorem v_31 (a1 : Int32) (ha1 : 0 ≤ a1.toInt ∧ a1.toInt ≤ 59) (H : mzH) (hI : gI SX H) (hJ : JX H) : gCall 31 [.ref 43, .int a1] H (gRl (fun _ H' => gI SX H' ∧ JX H' ∧ fZ H' 1 1 = fZ H 1 1 ∧ kp54 H H')) := by
  obtain ⟨k1_1, ek1_1⟩ : ∃ z, z = fZ H 1 1 := ⟨_, rfl⟩
  have ik1_1 : k1_1.toInt = (fZ H 1 1).toInt := by rw [← ek1_1]
  have bk1_1 : 0 ≤ k1_1.toInt ∧ k1_1.toInt ≤ 900 := by rw [ek1_1]; exact fZ_of hI sx_1 rfl
  have mkfr : kp54 H H := kp54_r
  refine gG_call [(0, .ref 43), (1, .int a1)] ⟨rfl, rfl, trivial⟩ ?_
  show gG 8 zB_31 (mzBlk zB_31 0) [(0, .ref 43), (1, .int a1)] [] H 0 0 _
  refine g_lconst (fun v502 _ => ?_)
  refine g_lstore_n (l' := [(0, .ref 43), (1, .int a1), (2, .long v502)]) rfl rfl ?_
  refine g_aload_n rfl ?_
  refine g_gfr hI sx_43 rfl ?_
  refine g_gfr hI sx_24 rfl ?_
  refine g_iload_n rfl ?_
  refine g_invvi hI sx_25 rfl rfl rfl rfl (s_26 25 zCo_25 a1 H hI hJ) (fun v505 H503 r504 => ?_)
  obtain ⟨rfl, bv505⟩ := r504
  refine g_istore (l' := [(0, .ref 43), (1, .int a1), (2, .long v502), (4, .int v505)]) rfl rfl ?_
  refine g_iconst (by decide) (fun v506 kv506 => ?_)
  refine g_istore (l' := [(0, .ref 43), (1, .int a1), (2, .long v502), (4, .int v505), (5, .int v506)]) rfl rfl ?_
  refine g_nop ?_
  have L512 : ∀ (N : Nat) (v507 : Int64) (v508 : Int32) (H509 : mzH), gI SX H509 → JX H509 → k1_1 = fZ H509 1 1 → kp54 H H509 → (0 ≤ v508.toInt ∧ v508.toInt ≤ 59) → (59 - v508.toInt).toNat < N → gG 8 zB_31 (mzBlk zB_31 1) [(0, .ref 43), (1, .int a1), (2, .long v507), (4, .int v505), (5, .int v508)] [] H509 0 0 (gRl (fun _ H' => gI SX H' ∧ JX H' ∧ fZ H' 1 1 = fZ H 1 1 ∧ kp54 H H')) := by
    intro N
    induction N with
    | zero => intro v507 v508 H509 hIH509 hJH509 e510 m511 bv508 hmL512; exact absurd hmL512 (Nat.not_lt_zero _)
    | succ N ihL512 =>
      intro v507 v508 H509 hIH509 hJH509 e510 m511 bv508 hmL512
      refine g_iload rfl ?_
      refine g_iload rfl ?_
      refine g_if2_ge (fun c513 => ?_) (fun c513 => ?_)
      · refine g_lload_n rfl ?_
        exact g_lret ⟨_, rfl, hIH509, hJH509, (e510.symm.trans ek1_1), m511⟩
      · refine g_aload_n rfl ?_
        refine g_gfr hIH509 sx_43 rfl ?_
        refine g_gfr hIH509 sx_24 rfl ?_
        refine g_gfr hIH509 sx_25 rfl ?_
        refine g_iload rfl ?_
        refine g_iaload hIH509 sx_27 rfl (by omega) (fun v514 ev514 lv514 uv514 => ?_)
        refine g_istore (l' := [(0, .ref 43), (1, .int a1), (2, .long v507), (4, .int v505), (5, .int v508), (6, .int v514)]) rfl rfl ?_
        refine g_aload_n rfl ?_
        refine g_iload rfl ?_
        refine g_iload rfl ?_
        refine g_invvi hIH509 sx_43 rfl rfl rfl rfl (v_30 v514 v505 H509 hIH509 hJH509) (fun v517 H515 r516 => ?_)
        obtain ⟨hIH515, hJH515, w518, m519⟩ := r516
        have e520 : k1_1 = fZ H515 1 1 := e510.trans w518.symm
        have m521 : kp54 H H515 := kp54_t m511 m519
        refine g_if_ne (fun c522 => ?_) (fun c522 => ?_)
        · refine g_iconst (by decide) (fun v523 kv523 => ?_)
          refine g_nop ?_
          refine g_istore (l' := [(0, .ref 43), (1, .int a1), (2, .long v507), (4, .int v505), (5, .int v508), (6, .int v514), (7, .int v523)]) rfl rfl ?_
          refine g_iload rfl ?_
          refine g_aload_n rfl ?_
          refine g_gfr hIH515 sx_43 rfl ?_
          refine g_gfr hIH515 sx_24 rfl ?_
          refine g_iload_n rfl ?_
          refine g_iaload hIH515 sx_42 rfl (by omega) (fun v524 ev524 lv524 uv524 => ?_)
          refine g_if_ne (fun c525 => ?_) (fun c525 => ?_)
          · refine g_iconst (by decide) (fun v526 kv526 => ?_)
            refine g_nop ?_
            refine g_if2_eq (fun c527 => ?_) (fun c527 => ?_)
            · refine g_iinc (l' := (fun v528 => [(0, .ref 43), (1, .int a1), (2, .long v507), (4, .int v505), (5, .int v528), (6, .int v514), (7, .int v523)])) rfl rfl (by decide) (by omega) (fun _ => rfl) (fun v528 ev528 => ?_)
              refine g_goto ?_
              refine gG_pick [0, 1, 2, 4, 5] (l' := [(0, .ref 43), (1, .int a1), (2, .long v507), (4, .int v505), (5, .int v528)]) rfl ?_
              exact ihL512 v507 v528 H515 hIH515 hJH515 e520 m521 (by omega) (by omega)
            · exfalso; omega
          · refine g_iconst (by decide) (fun v529 kv529 => ?_)
            refine g_goto ?_
            refine g_if2_eq (fun c530 => ?_) (fun c530 => ?_)
            · exfalso; omega
            · refine g_lload_n rfl ?_
              refine g_lconst (fun v531 _ => ?_)
              refine g_iload rfl ?_
              refine g_lshl (fun v532 _ => ?_)
              refine g_lor (fun v533 _ => ?_)
              refine g_lstore_n (l' := [(0, .ref 43), (1, .int a1), (2, .long v533), (4, .int v505), (5, .int v508), (6, .int v514), (7, .int v523)]) rfl rfl ?_
              refine g_nop ?_
              refine g_iinc (l' := (fun v534 => [(0, .ref 43), (1, .int a1), (2, .long v533), (4, .int v505), (5, .int v534), (6, .int v514), (7, .int v523)])) rfl rfl (by decide) (by omega) (fun _ => rfl) (fun v534 ev534 => ?_)
              refine g_goto ?_
              refine gG_pick [0, 1, 2, 4, 5] (l' := [(0, .ref 43), (1, .int a1), (2, .long v533), (4, .int v505), (5, .int v534)]) rfl ?_
              exact ihL512 v533 v534 H515 hIH515 hJH515 e520 m521 (by omega) (by omega)
        · refine g_iconst (by decide) (fun v535 kv535 => ?_)
          refine g_goto ?_
          refine g_istore (l' := [(0, .ref 43), (1, .int a1), (2, .long v507), (4, .int v505), (5, .int v508), (6, .int v514), (7, .int v535)]) rfl rfl ?_
          refine g_iload rfl ?_
          refine g_aload_n rfl ?_
          refine g_gfr hIH515 sx_43 rfl ?_
          refine g_gfr hIH515 sx_24 rfl ?_
          refine g_iload_n rfl ?_
          refine g_iaload hIH515 sx_42 rfl (by omega) (fun v536 ev536 lv536 uv536 => ?_)
          refine g_if_ne (fun c537 => ?_) (fun c537 => ?_)
          · refine g_iconst (by decide) (fun v538 kv538 => ?_)
            refine g_nop ?_
            refine g_if2_eq (fun c539 => ?_) (fun c539 => ?_)
            · exfalso; omega
            · refine g_lload_n rfl ?_
              refine g_lconst (fun v540 _ => ?_)
              refine g_iload rfl ?_
              refine g_lshl (fun v541 _ => ?_)
              refine g_lor (fun v542 _ => ?_)
              refine g_lstore_n (l' := [(0, .ref 43), (1, .int a1), (2, .long v542), (4, .int v505), (5, .int v508), (6, .int v514), (7, .int v535)]) rfl rfl ?_
              refine g_nop ?_
              refine g_iinc (l' := (fun v543 => [(0, .ref 43), (1, .int a1), (2, .long v542), (4, .int v505), (5, .int v543), (6, .int v514), (7, .int v535)])) rfl rfl (by decide) (by omega) (fun _ => rfl) (fun v543 ev543 => ?_)
              refine g_goto ?_
              refine gG_pick [0, 1, 2, 4, 5] (l' := [(0, .ref 43), (1, .int a1), (2, .long v542), (4, .int v505), (5, .int v543)]) rfl ?_
              exact ihL512 v542 v543 H515 hIH515 hJH515 e520 m521 (by omega) (by omega)
          · refine g_iconst (by decide) (fun v544 kv544 => ?_)
            refine g_goto ?_
            refine g_if2_eq (fun c545 => ?_) (fun c545 => ?_)
            · refine g_iinc (l' := (fun v546 => [(0, .ref 43), (1, .int a1), (2, .long v507), (4, .int v505), (5, .int v546), (6, .int v514), (7, .int v535)])) rfl rfl (by decide) (by omega) (fun _ => rfl) (fun v546 ev546 => ?_)
              refine g_goto ?_
              refine gG_pick [0, 1, 2, 4, 5] (l' := [(0, .ref 43), (1, .int a1), (2, .long v507), (4, .int v505), (5, .int v546)]) rfl ?_
              exact ihL512 v507 v546 H515 hIH515 hJH515 e520 m521 (by omega) (by omega)
            · exfalso; omega
  exact L512 _ v502 v506 H hI hJ ek1_1 mkfr (by omega) (Nat.lt_succ_self _)
set_option maxRecDepth 4000 in
set_option maxHeartbeats 4000000 in
/-- X3.outcome -/
theorem v_34 (a1 : Int32) (ha1 : -1 ≤ a1.toInt ∧ a1.toInt ≤ 39) (H : mzH) (hI : gI SX H) (hJ : JX H) : gCall 34 [.ref 43, .int a1] H (gRi (fun v H' => gI SX H' ∧ JX H' ∧ fZ H' 1 1 = fZ H 1 1 ∧ kp54 H H')) := by
  obtain ⟨k1_1, ek1_1⟩ : ∃ z, z = fZ H 1 1 := ⟨_, rfl⟩
  have ik1_1 : k1_1.toInt = (fZ H 1 1).toInt := by rw [← ek1_1]
  have bk1_1 : 0 ≤ k1_1.toInt ∧ k1_1.toInt ≤ 900 := by rw [ek1_1]; exact fZ_of hI sx_1 rfl
  have mkfr : kp54 H H := kp54_r
  refine gG_call [(0, .ref 43), (1, .int a1)] ⟨rfl, rfl, trivial⟩ ?_
  show gG 4 zB_34 (mzBlk zB_34 0) [(0, .ref 43), (1, .int a1)] [] H 0 0 _
  refine g_aload_n rfl ?_
  refine g_gfr hI sx_43 rfl ?_
  refine g_invvv hI sx_51 rfl rfl rfl rfl (v_25 51 zCo_51 H hI hJ) (fun H837 r838 => ?_)
  obtain ⟨hIH837, hJH837, w839, m840⟩ := r838
  have e841 : k1_1 = fZ H837 1 1 := ek1_1.trans w839.symm
  have m842 : kp54 H H837 := kp54_t mkfr m840
  refine g_aload_n rfl ?_
  refine g_gfr hIH837 sx_43 rfl ?_
  refine g_invvv hIH837 sx_44 rfl rfl rfl rfl (v_83 44 zWo_44 H837 hIH837 hJH837) (fun H843 r844 => ?_)
  obtain ⟨hIH843, hJH843, w845, m846⟩ := r844
  have e847 : k1_1 = fZ H843 1 1 := e841.trans w845.symm
  have m848 : kp54 H H843 := kp54_t m842 m846
  refine g_iconst (by decide) (fun v849 kv849 => ?_)
  refine g_istore_n (l' := [(0, .ref 43), (1, .int a1), (2, .int v849)]) rfl rfl ?_
  refine g_iconst (by decide) (fun v850 kv850 => ?_)
  refine g_istore_n (l' := [(0, .ref 43), (1, .int a1), (2, .int v849), (3, .int v850)]) rfl rfl ?_
  refine g_nop ?_
  have L856 : ∀ (N : Nat) (v851 : Int32) (v852 : Int32) (H853 : mzH), gI SX H853 → JX H853 → k1_1 = fZ H853 1 1 → kp54 H H853 → (0 ≤ v852.toInt ∧ v852.toInt ≤ 60) → (60 - v852.toInt).toNat < N → gG 4 zB_34 (mzBlk zB_34 1) [(0, .ref 43), (1, .int a1), (2, .int v851), (3, .int v852)] [] H853 0 0 (gRi (fun v H' => gI SX H' ∧ JX H' ∧ fZ H' 1 1 = fZ H 1 1 ∧ kp54 H H')) := by
    intro N
    induction N with
    | zero => intro v851 v852 H853 hIH853 hJH853 e854 m855 bv852 hmL856; exact absurd hmL856 (Nat.not_lt_zero _)
    | succ N ihL856 =>
      intro v851 v852 H853 hIH853 hJH853 e854 m855 bv852 hmL856
      refine g_iload_n rfl ?_
      refine g_aload_n rfl ?_
      refine g_gfr hIH853 sx_43 rfl ?_
      refine g_gfi hIH853 sx_51 rfl (fun v857 ev857 lv857 uv857 => ?_)
      refine g_if2_ge (fun c858 => ?_) (fun c858 => ?_)
      · refine g_iload_n rfl ?_
        refine g_if_ge (fun c859 => ?_) (fun c859 => ?_)
        · refine g_aload_n rfl ?_
          refine g_gfr hIH853 sx_43 rfl ?_
          refine g_iload_n rfl ?_
          refine g_invvi hIH853 sx_44 rfl rfl rfl rfl (s_91 44 zWo_44 a1 (by omega) H853 hIH853 hJH853) (fun v862 H860 r861 => ?_)
          obtain rfl := r861
          refine g_nop ?_
          exact g_iret ⟨_, rfl, hIH853, hJH853, (e854.symm.trans ek1_1), m855⟩
        · refine g_iload_n rfl ?_
          refine g_goto ?_
          exact g_iret ⟨_, rfl, hIH853, hJH853, (e854.symm.trans ek1_1), m855⟩
      · refine g_iload_n rfl ?_
        refine g_aload_n rfl ?_
        refine g_gfr hIH853 sx_43 rfl ?_
        refine g_aload_n rfl ?_
        refine g_gfr hIH853 sx_43 rfl ?_
        refine g_aload_n rfl ?_
        refine g_gfr hIH853 sx_43 rfl ?_
        refine g_gfr hIH853 sx_51 rfl ?_
        refine g_iload_n rfl ?_
        refine g_iaload hIH853 sx_53 rfl (by omega) (fun v863 ev863 lv863 uv863 => ?_)
        refine g_aload_n rfl ?_
        refine g_gfr hIH853 sx_43 rfl ?_
        refine g_iload_n rfl ?_
        refine g_invvi hIH853 sx_51 rfl rfl rfl rfl (s_27 51 zCo_51 v852 (by omega) H853 hIH853 hJH853) (fun v866 H864 r865 => ?_)
        obtain rfl := r865
        refine g_invvi hIH853 sx_44 rfl rfl rfl rfl (v_93 44 zWo_44 3 zBo_3 v863 (by omega) v866 H853 hIH853 hJH853) (fun v869 H867 r868 => ?_)
        obtain ⟨hIH867, hJH867, w870, m871⟩ := r868
        have e872 : k1_1 = fZ H867 1 1 := e854.trans w870.symm
        have m873 : kp54 H H867 := kp54_t m855 m871
        refine g_if_eq (fun c874 => ?_) (fun c874 => ?_)
        · refine g_iconst (by decide) (fun v875 kv875 => ?_)
          refine g_nop ?_
          refine g_iadd (by have := gz_any v851; omega) (fun v876 ev876 => ?_)
          refine g_istore_n (l' := [(0, .ref 43), (1, .int a1), (2, .int v876), (3, .int v852)]) rfl rfl ?_
          refine g_iinc (l' := (fun v877 => [(0, .ref 43), (1, .int a1), (2, .int v876), (3, .int v877)])) rfl rfl (by decide) (by omega) (fun _ => rfl) (fun v877 ev877 => ?_)
          refine g_goto ?_
          exact ihL856 v876 v877 H867 hIH867 hJH867 e872 m873 (by omega) (by omega)
        · refine g_iconst (by decide) (fun v878 kv878 => ?_)
          refine g_goto ?_
          refine g_iadd' (fun v879 ov879 => ?_)
          refine g_istore_n (l' := [(0, .ref 43), (1, .int a1), (2, .int v879), (3, .int v852)]) rfl rfl ?_
          refine g_iinc (l' := (fun v880 => [(0, .ref 43), (1, .int a1), (2, .int v879), (3, .int v880)])) rfl rfl (by decide) (by omega) (fun _ => rfl) (fun v880 ev880 => ?_)
          refine g_goto ?_
          exact ihL856 v879 v880 H867 hIH867 hJH867 e872 m873 (by omega) (by omega)
  exact L856 _ v849 v850 H843 hIH843 hJH843 e847 m848 (by omega) (Nat.lt_succ_self _)
set_option maxRecDepth 4000 in
set_option maxHeartbeats 4000000 in
/-- X3.outcomeAt -/
theorem v_32 (a1 : Int32) (ha1 : 0 ≤ a1.toInt ∧ a1.toInt ≤ 59) (a2 : Int32) (a3 : Int32) (ha3 : -1 ≤ a3.toInt ∧ a3.toInt ≤ 39) (H : mzH) (hI : gI SX H) (hJ : JX H) : gCall 32 [.ref 43, .int a1, .int a2, .int a3] H (gRi (fun v H' => gI SX H' ∧ JX H' ∧ fZ H' 1 1 = fZ H 1 1 ∧ kp54 H H')) := by
  obtain ⟨k1_1, ek1_1⟩ : ∃ z, z = fZ H 1 1 := ⟨_, rfl⟩
  have ik1_1 : k1_1.toInt = (fZ H 1 1).toInt := by rw [← ek1_1]
  have bk1_1 : 0 ≤ k1_1.toInt ∧ k1_1.toInt ≤ 900 := by rw [ek1_1]; exact fZ_of hI sx_1 rfl
  have mkfr : kp54 H H := kp54_r
  refine gG_call [(0, .ref 43), (1, .int a1), (2, .int a2), (3, .int a3)] ⟨rfl, rfl, rfl, rfl, trivial⟩ ?_
  show gG 4 zB_32 (mzBlk zB_32 0) [(0, .ref 43), (1, .int a1), (2, .int a2), (3, .int a3)] [] H 0 0 _
  refine g_aload_n rfl ?_
  refine g_gfr hI sx_43 rfl ?_
  refine g_aload_n rfl ?_
  refine g_gfr hI sx_43 rfl ?_
  refine g_invvv hI sx_51 rfl rfl rfl rfl (v_24 51 zCo_51 3 zBo_3 H hI hJ) (fun H65 r66 => ?_)
  obtain ⟨hIH65, hJH65, w67, m68⟩ := r66
  have e69 : k1_1 = fZ H65 1 1 := ek1_1.trans w67.symm
  have m70 : kp54 H H65 := kp54_t mkfr m68
  refine g_aload_n rfl ?_
  refine g_gfr hIH65 sx_43 rfl ?_
  refine g_gfr hIH65 sx_51 rfl ?_
  refine g_iload_n rfl ?_
  refine g_iload_n rfl ?_
  refine g_iastore hIH65 sx_52 (by omega) (gz_any _) (fun H71 eH71 hIH71 => ?_)
  have hJH71 : JX H71 := JX_sA (by omega) eH71 hJH65
  have e72 : k1_1 = fZ H71 1 1 := by rw [eH71, fZ_sA]; exact e69
  have m73 : kp54 H H71 := kp54_A m70 eH71 (by omega)
  refine g_aload_n rfl ?_
  refine g_iload_n rfl ?_
  refine g_invvi hIH71 sx_43 rfl rfl rfl rfl (v_34 a3 (by omega) H71 hIH71 hJH71) (fun v76 H74 r75 => ?_)
  obtain ⟨hIH74, hJH74, w77, m78⟩ := r75
  have e79 : k1_1 = fZ H74 1 1 := e72.trans w77.symm
  have m80 : kp54 H H74 := kp54_t m73 m78
  exact g_iret ⟨_, rfl, hIH74, hJH74, (e79.symm.trans ek1_1), m80⟩
set_option maxRecDepth 4000 in
set_option maxHeartbeats 4000000 in
/-- X3.outcomeSwapped -/
theorem v_33 (a1 : Int32) (ha1 : 0 ≤ a1.toInt ∧ a1.toInt ≤ 59) (a2 : Int32) (ha2 : 0 ≤ a2.toInt ∧ a2.toInt ≤ 59) (a3 : Int32) (ha3 : -1 ≤ a3.toInt ∧ a3.toInt ≤ 39) (H : mzH) (hI : gI SX H) (hJ : JX H) : gCall 33 [.ref 43, .int a1, .int a2, .int a3] H (gRi (fun v H' => gI SX H' ∧ JX H' ∧ fZ H' 1 1 = fZ H 1 1 ∧ kp54 H H')) := by
  obtain ⟨k1_1, ek1_1⟩ : ∃ z, z = fZ H 1 1 := ⟨_, rfl⟩
  have ik1_1 : k1_1.toInt = (fZ H 1 1).toInt := by rw [← ek1_1]
  have bk1_1 : 0 ≤ k1_1.toInt ∧ k1_1.toInt ≤ 900 := by rw [ek1_1]; exact fZ_of hI sx_1 rfl
  have mkfr : kp54 H H := kp54_r
  refine gG_call [(0, .ref 43), (1, .int a1), (2, .int a2), (3, .int a3)] ⟨rfl, rfl, rfl, rfl, trivial⟩ ?_
  show gG 4 zB_33 (mzBlk zB_33 0) [(0, .ref 43), (1, .int a1), (2, .int a2), (3, .int a3)] [] H 0 0 _
  refine g_aload_n rfl ?_
  refine g_gfr hI sx_43 rfl ?_
  refine g_aload_n rfl ?_
  refine g_gfr hI sx_43 rfl ?_
  refine g_invvv hI sx_51 rfl rfl rfl rfl (v_24 51 zCo_51 3 zBo_3 H hI hJ) (fun H85 r86 => ?_)
  obtain ⟨hIH85, hJH85, w87, m88⟩ := r86
  have e89 : k1_1 = fZ H85 1 1 := ek1_1.trans w87.symm
  have m90 : kp54 H H85 := kp54_t mkfr m88
  refine g_aload_n rfl ?_
  refine g_gfr hIH85 sx_43 rfl ?_
  refine g_gfr hIH85 sx_51 rfl ?_
  refine g_iload_n rfl ?_
  refine g_aload_n rfl ?_
  refine g_gfr hIH85 sx_43 rfl ?_
  refine g_gfr hIH85 sx_3 rfl ?_
  refine g_iload_n rfl ?_
  refine g_iaload hIH85 sx_6 rfl (by omega) (fun v91 ev91 lv91 uv91 => ?_)
  refine g_iastore hIH85 sx_52 (by omega) (gz_any _) (fun H92 eH92 hIH92 => ?_)
  have hJH92 : JX H92 := JX_sA (by omega) eH92 hJH85
  have e93 : k1_1 = fZ H92 1 1 := by rw [eH92, fZ_sA]; exact e89
  have m94 : kp54 H H92 := kp54_A m90 eH92 (by omega)
  refine g_aload_n rfl ?_
  refine g_gfr hIH92 sx_43 rfl ?_
  refine g_gfr hIH92 sx_51 rfl ?_
  refine g_iload_n rfl ?_
  refine g_aload_n rfl ?_
  refine g_gfr hIH92 sx_43 rfl ?_
  refine g_gfr hIH92 sx_3 rfl ?_
  refine g_iload_n rfl ?_
  refine g_iaload hIH92 sx_6 rfl (by omega) (fun v95 ev95 lv95 uv95 => ?_)
  refine g_iastore hIH92 sx_52 (by omega) (gz_any _) (fun H96 eH96 hIH96 => ?_)
  have hJH96 : JX H96 := JX_sA (by omega) eH96 hJH92
  have e97 : k1_1 = fZ H96 1 1 := by rw [eH96, fZ_sA]; exact e93
  have m98 : kp54 H H96 := kp54_A m94 eH96 (by omega)
  refine g_aload_n rfl ?_
  refine g_iload_n rfl ?_
  refine g_invvi hIH96 sx_43 rfl rfl rfl rfl (v_34 a3 (by omega) H96 hIH96 hJH96) (fun v101 H99 r100 => ?_)
  obtain ⟨hIH99, hJH99, w102, m103⟩ := r100
  have e104 : k1_1 = fZ H99 1 1 := e97.trans w102.symm
  have m105 : kp54 H H99 := kp54_t m98 m103
  exact g_iret ⟨_, rfl, hIH99, hJH99, (e104.symm.trans ek1_1), m105⟩
set_option maxRecDepth 4000 in
set_option maxHeartbeats 4000000 in
/-- X3.openWindow -/
theorem v_35 (a1 : Int32) (ha1 : 0 ≤ a1.toInt ∧ a1.toInt ≤ 59) (H : mzH) (hI : gI SX H) (hJ : JX H) : gCall 35 [.ref 43, .int a1] H (gRv (fun H' => gI SX H' ∧ JX H' ∧ fZ H' 1 1 = fZ H 1 1 ∧ kp54 H H')) := by
  obtain ⟨k1_1, ek1_1⟩ : ∃ z, z = fZ H 1 1 := ⟨_, rfl⟩
  have ik1_1 : k1_1.toInt = (fZ H 1 1).toInt := by rw [← ek1_1]
  have bk1_1 : 0 ≤ k1_1.toInt ∧ k1_1.toInt ≤ 900 := by rw [ek1_1]; exact fZ_of hI sx_1 rfl
  have mkfr : kp54 H H := kp54_r
  refine gG_call [(0, .ref 43), (1, .int a1)] ⟨rfl, rfl, trivial⟩ ?_
  show gG 8 zB_35 (mzBlk zB_35 0) [(0, .ref 43), (1, .int a1)] [] H 0 0 _
  have L5867 : ∀ (N : Nat) (v5860 : Int32) (v5861 : Int32) (v5862 : Int32) (v5863 : Int32) (H5864 : mzH), gI SX H5864 → JX H5864 → k1_1 = fZ H5864 1 1 → kp54 H H5864 → (0 ≤ v5860.toInt ∧ v5860.toInt ≤ 60) → (0 ≤ v5861.toInt ∧ v5861.toInt ≤ 1) → (0 ≤ v5862.toInt ∧ v5862.toInt ≤ 1) → (0 ≤ v5863.toInt ∧ v5863.toInt ≤ 1000) → (1000 - v5863.toInt).toNat < N → gG 8 zB_35 (mzBlk zB_35 6) [(0, .ref 43), (1, .int a1), (2, .int v5860), (3, .int v5861), (4, .int v5862), (5, .int v5863)] [] H5864 0 0 (gRv (fun H' => gI SX H' ∧ JX H' ∧ fZ H' 1 1 = fZ H 1 1 ∧ kp54 H H')) := by
    intro N
    induction N with
    | zero => intro v5860 v5861 v5862 v5863 H5864 hIH5864 hJH5864 e5865 m5866 bv5860 bv5861 bv5862 bv5863 hmL5867; exact absurd hmL5867 (Nat.not_lt_zero _)
    | succ N ihL5867 =>
      intro v5860 v5861 v5862 v5863 H5864 hIH5864 hJH5864 e5865 m5866 bv5860 bv5861 bv5862 bv5863 hmL5867
      refine g_iload rfl ?_
      refine g_sipush (by decide) (fun v5868 kv5868 => ?_)
      refine g_if2_gt (fun c5869 => ?_) (fun c5869 => ?_)
      · exact g_ret ⟨rfl, hIH5864, hJH5864, (e5865.symm.trans ek1_1), m5866⟩
      · refine g_iload_n rfl ?_
        refine g_istore (l' := [(0, .ref 43), (1, .int a1), (2, .int v5860), (3, .int v5861), (4, .int v5862), (5, .int v5863), (6, .int v5860)]) rfl rfl ?_
        refine g_nop ?_
        have L5874 : ∀ (N : Nat) (v5870 : Int32) (H5871 : mzH), gI SX H5871 → JX H5871 → k1_1 = fZ H5871 1 1 → kp54 H H5871 → (0 ≤ v5870.toInt ∧ v5870.toInt ≤ 60) → (60 - v5870.toInt).toNat < N → gG 8 zB_35 (mzBlk zB_35 7) [(0, .ref 43), (1, .int a1), (2, .int v5870), (3, .int v5861), (4, .int v5862), (5, .int v5863), (6, .int v5860)] [] H5871 0 0 (gRv (fun H' => gI SX H' ∧ JX H' ∧ fZ H' 1 1 = fZ H 1 1 ∧ kp54 H H')) := by
          intro N
          induction N with
          | zero => intro v5870 H5871 hIH5871 hJH5871 e5872 m5873 bv5870 hmL5874; exact absurd hmL5874 (Nat.not_lt_zero _)
          | succ N ihL5874 =>
            intro v5870 H5871 hIH5871 hJH5871 e5872 m5873 bv5870 hmL5874
            refine g_iload_n rfl ?_
            refine g_aload_n rfl ?_
            refine g_gfr hIH5871 sx_43 rfl ?_
            refine g_gfr hIH5871 sx_24 rfl ?_
            refine g_gfi hIH5871 sx_25 rfl (fun v5875 ev5875 lv5875 uv5875 => ?_)
            refine g_if2_ge (fun c5876 => ?_) (fun c5876 => ?_)
            · refine g_iload_n rfl ?_
              refine g_iload rfl ?_
              refine g_if2_ne (fun c5877 => ?_) (fun c5877 => ?_)
              · refine g_aload_n rfl ?_
                refine g_gfr hIH5871 sx_43 rfl ?_
                refine g_aload_n rfl ?_
                refine g_gfr hIH5871 sx_43 rfl ?_
                refine g_iload_n rfl ?_
                refine g_iload rfl ?_
                refine g_invvi hIH5871 sx_44 rfl rfl rfl rfl (s_94 44 zWo_44 3 zBo_3 a1 (by omega) v5863 H5871 hIH5871 hJH5871) (fun v5880 H5878 r5879 => ?_)
                obtain rfl := r5879
                refine g_if_ne (fun c5881 => ?_) (fun c5881 => ?_)
                · refine g_iconst (by decide) (fun v5882 kv5882 => ?_)
                  refine g_nop ?_
                  refine g_istore_n (l' := [(0, .ref 43), (1, .int a1), (2, .int v5870), (3, .int v5882), (4, .int v5862), (5, .int v5863), (6, .int v5860)]) rfl rfl ?_
                  refine g_nop ?_
                  refine g_iload_n rfl ?_
                  refine g_if_eq (fun c5883 => ?_) (fun c5883 => ?_)
                  · refine g_iinc (l' := (fun v5884 => [(0, .ref 43), (1, .int a1), (2, .int v5870), (3, .int v5882), (4, .int v5862), (5, .int v5884), (6, .int v5860)])) rfl rfl (by decide) (by omega) (fun _ => rfl) (fun v5884 ev5884 => ?_)
                    refine g_goto ?_
                    refine gG_pick [0, 1, 2, 3, 4, 5] (l' := [(0, .ref 43), (1, .int a1), (2, .int v5870), (3, .int v5882), (4, .int v5862), (5, .int v5884)]) rfl ?_
                    exact ihL5867 v5870 v5882 v5862 v5884 H5871 hIH5871 hJH5871 e5872 m5873 (by omega) (by omega) (by omega) (by omega) (by omega)
                  · exfalso; omega
                · refine g_iconst (by decide) (fun v5885 kv5885 => ?_)
                  refine g_goto ?_
                  refine g_istore_n (l' := [(0, .ref 43), (1, .int a1), (2, .int v5870), (3, .int v5885), (4, .int v5862), (5, .int v5863), (6, .int v5860)]) rfl rfl ?_
                  refine g_nop ?_
                  refine g_iload_n rfl ?_
                  refine g_if_eq (fun c5886 => ?_) (fun c5886 => ?_)
                  · exfalso; omega
                  · refine g_aload_n rfl ?_
                    refine g_aload_n rfl ?_
                    refine g_gfi hIH5871 sx_43 rfl (fun v5887 ev5887 lv5887 uv5887 => ?_)
                    refine g_if_ne (fun c5888 => ?_) (fun c5888 => ?_)
                    · refine g_aload_n rfl ?_
                      refine g_gfi hIH5871 sx_43 rfl (fun v5889 ev5889 lv5889 uv5889 => ?_)
                      refine g_nop ?_
                      refine g_pfi hIH5871 sx_43 rfl (gz_any _) (fun H5890 eH5890 hIH5890 => ?_)
                      have hJH5890 : JX H5890 := JX_sF eH5890 hJH5871
                      have e5891 : k1_1 = fZ H5890 1 1 := by rw [eH5890, fZ_sF_nc (by omega)]; exact e5872
                      have m5892 : kp54 H H5890 := kp54_F m5873 eH5890 (by omega)
                      refine g_aload_n rfl ?_
                      refine g_iload rfl ?_
                      refine g_pfi hIH5890 sx_43 rfl (gz_any _) (fun H5893 eH5893 hIH5893 => ?_)
                      have hJH5893 : JX H5893 := JX_sF eH5893 hJH5890
                      have e5894 : k1_1 = fZ H5893 1 1 := by rw [eH5893, fZ_sF_nc (by omega)]; exact e5891
                      have m5895 : kp54 H H5893 := kp54_F m5892 eH5893 (by omega)
                      refine g_aload_n rfl ?_
                      refine g_dup rfl ?_
                      refine g_gfi hIH5893 sx_43 rfl (fun v5896 ev5896 lv5896 uv5896 => ?_)
                      refine g_iconst (by decide) (fun v5897 kv5897 => ?_)
                      refine g_iadd' (fun v5898 ov5898 => ?_)
                      refine g_pfi hIH5893 sx_43 rfl (gz_any _) (fun H5899 eH5899 hIH5899 => ?_)
                      have hJH5899 : JX H5899 := JX_sF eH5899 hJH5893
                      have e5900 : k1_1 = fZ H5899 1 1 := by rw [eH5899, fZ_sF_nc (by omega)]; exact e5894
                      have m5901 : kp54 H H5899 := kp54_F m5895 eH5899 (by omega)
                      refine g_nop ?_
                      refine g_iinc (l' := (fun v5902 => [(0, .ref 43), (1, .int a1), (2, .int v5870), (3, .int v5885), (4, .int v5862), (5, .int v5902), (6, .int v5860)])) rfl rfl (by decide) (by omega) (fun _ => rfl) (fun v5902 ev5902 => ?_)
                      refine g_goto ?_
                      refine gG_pick [0, 1, 2, 3, 4, 5] (l' := [(0, .ref 43), (1, .int a1), (2, .int v5870), (3, .int v5885), (4, .int v5862), (5, .int v5902)]) rfl ?_
                      exact ihL5867 v5870 v5885 v5862 v5902 H5899 hIH5899 hJH5899 e5900 m5901 (by omega) (by omega) (by omega) (by omega) (by omega)
                    · refine g_iload rfl ?_
                      refine g_goto ?_
                      refine g_pfi hIH5871 sx_43 rfl (gz_any _) (fun H5903 eH5903 hIH5903 => ?_)
                      have hJH5903 : JX H5903 := JX_sF eH5903 hJH5871
                      have e5904 : k1_1 = fZ H5903 1 1 := by rw [eH5903, fZ_sF_nc (by omega)]; exact e5872
                      have m5905 : kp54 H H5903 := kp54_F m5873 eH5903 (by omega)
                      refine g_aload_n rfl ?_
                      refine g_iload rfl ?_
                      refine g_pfi hIH5903 sx_43 rfl (gz_any _) (fun H5906 eH5906 hIH5906 => ?_)
                      have hJH5906 : JX H5906 := JX_sF eH5906 hJH5903
                      have e5907 : k1_1 = fZ H5906 1 1 := by rw [eH5906, fZ_sF_nc (by omega)]; exact e5904
                      have m5908 : kp54 H H5906 := kp54_F m5905 eH5906 (by omega)
                      refine g_aload_n rfl ?_
                      refine g_dup rfl ?_
                      refine g_gfi hIH5906 sx_43 rfl (fun v5909 ev5909 lv5909 uv5909 => ?_)
                      refine g_iconst (by decide) (fun v5910 kv5910 => ?_)
                      refine g_iadd' (fun v5911 ov5911 => ?_)
                      refine g_pfi hIH5906 sx_43 rfl (gz_any _) (fun H5912 eH5912 hIH5912 => ?_)
                      have hJH5912 : JX H5912 := JX_sF eH5912 hJH5906
                      have e5913 : k1_1 = fZ H5912 1 1 := by rw [eH5912, fZ_sF_nc (by omega)]; exact e5907
                      have m5914 : kp54 H H5912 := kp54_F m5908 eH5912 (by omega)
                      refine g_nop ?_
                      refine g_iinc (l' := (fun v5915 => [(0, .ref 43), (1, .int a1), (2, .int v5870), (3, .int v5885), (4, .int v5862), (5, .int v5915), (6, .int v5860)])) rfl rfl (by decide) (by omega) (fun _ => rfl) (fun v5915 ev5915 => ?_)
                      refine g_goto ?_
                      refine gG_pick [0, 1, 2, 3, 4, 5] (l' := [(0, .ref 43), (1, .int a1), (2, .int v5870), (3, .int v5885), (4, .int v5862), (5, .int v5915)]) rfl ?_
                      exact ihL5867 v5870 v5885 v5862 v5915 H5912 hIH5912 hJH5912 e5913 m5914 (by omega) (by omega) (by omega) (by omega) (by omega)
              · refine g_iload rfl ?_
                refine g_if_eq (fun c5916 => ?_) (fun c5916 => ?_)
                · refine g_iload_n rfl ?_
                  refine g_if_eq (fun c5917 => ?_) (fun c5917 => ?_)
                  · refine g_iinc (l' := (fun v5918 => [(0, .ref 43), (1, .int a1), (2, .int v5870), (3, .int v5861), (4, .int v5862), (5, .int v5918), (6, .int v5860)])) rfl rfl (by decide) (by omega) (fun _ => rfl) (fun v5918 ev5918 => ?_)
                    refine g_goto ?_
                    refine gG_pick [0, 1, 2, 3, 4, 5] (l' := [(0, .ref 43), (1, .int a1), (2, .int v5870), (3, .int v5861), (4, .int v5862), (5, .int v5918)]) rfl ?_
                    exact ihL5867 v5870 v5861 v5862 v5918 H5871 hIH5871 hJH5871 e5872 m5873 (by omega) (by omega) (by omega) (by omega) (by omega)
                  · refine g_aload_n rfl ?_
                    refine g_aload_n rfl ?_
                    refine g_gfi hIH5871 sx_43 rfl (fun v5919 ev5919 lv5919 uv5919 => ?_)
                    refine g_if_ne (fun c5920 => ?_) (fun c5920 => ?_)
                    · refine g_aload_n rfl ?_
                      refine g_gfi hIH5871 sx_43 rfl (fun v5921 ev5921 lv5921 uv5921 => ?_)
                      refine g_nop ?_
                      refine g_pfi hIH5871 sx_43 rfl (gz_any _) (fun H5922 eH5922 hIH5922 => ?_)
                      have hJH5922 : JX H5922 := JX_sF eH5922 hJH5871
                      have e5923 : k1_1 = fZ H5922 1 1 := by rw [eH5922, fZ_sF_nc (by omega)]; exact e5872
                      have m5924 : kp54 H H5922 := kp54_F m5873 eH5922 (by omega)
                      refine g_aload_n rfl ?_
                      refine g_iload rfl ?_
                      refine g_pfi hIH5922 sx_43 rfl (gz_any _) (fun H5925 eH5925 hIH5925 => ?_)
                      have hJH5925 : JX H5925 := JX_sF eH5925 hJH5922
                      have e5926 : k1_1 = fZ H5925 1 1 := by rw [eH5925, fZ_sF_nc (by omega)]; exact e5923
                      have m5927 : kp54 H H5925 := kp54_F m5924 eH5925 (by omega)
                      refine g_aload_n rfl ?_
                      refine g_dup rfl ?_
                      refine g_gfi hIH5925 sx_43 rfl (fun v5928 ev5928 lv5928 uv5928 => ?_)
                      refine g_iconst (by decide) (fun v5929 kv5929 => ?_)
                      refine g_iadd' (fun v5930 ov5930 => ?_)
                      refine g_pfi hIH5925 sx_43 rfl (gz_any _) (fun H5931 eH5931 hIH5931 => ?_)
                      have hJH5931 : JX H5931 := JX_sF eH5931 hJH5925
                      have e5932 : k1_1 = fZ H5931 1 1 := by rw [eH5931, fZ_sF_nc (by omega)]; exact e5926
                      have m5933 : kp54 H H5931 := kp54_F m5927 eH5931 (by omega)
                      refine g_nop ?_
                      refine g_iinc (l' := (fun v5934 => [(0, .ref 43), (1, .int a1), (2, .int v5870), (3, .int v5861), (4, .int v5862), (5, .int v5934), (6, .int v5860)])) rfl rfl (by decide) (by omega) (fun _ => rfl) (fun v5934 ev5934 => ?_)
                      refine g_goto ?_
                      refine gG_pick [0, 1, 2, 3, 4, 5] (l' := [(0, .ref 43), (1, .int a1), (2, .int v5870), (3, .int v5861), (4, .int v5862), (5, .int v5934)]) rfl ?_
                      exact ihL5867 v5870 v5861 v5862 v5934 H5931 hIH5931 hJH5931 e5932 m5933 (by omega) (by omega) (by omega) (by omega) (by omega)
                    · refine g_iload rfl ?_
                      refine g_goto ?_
                      refine g_pfi hIH5871 sx_43 rfl (gz_any _) (fun H5935 eH5935 hIH5935 => ?_)
                      have hJH5935 : JX H5935 := JX_sF eH5935 hJH5871
                      have e5936 : k1_1 = fZ H5935 1 1 := by rw [eH5935, fZ_sF_nc (by omega)]; exact e5872
                      have m5937 : kp54 H H5935 := kp54_F m5873 eH5935 (by omega)
                      refine g_aload_n rfl ?_
                      refine g_iload rfl ?_
                      refine g_pfi hIH5935 sx_43 rfl (gz_any _) (fun H5938 eH5938 hIH5938 => ?_)
                      have hJH5938 : JX H5938 := JX_sF eH5938 hJH5935
                      have e5939 : k1_1 = fZ H5938 1 1 := by rw [eH5938, fZ_sF_nc (by omega)]; exact e5936
                      have m5940 : kp54 H H5938 := kp54_F m5937 eH5938 (by omega)
                      refine g_aload_n rfl ?_
                      refine g_dup rfl ?_
                      refine g_gfi hIH5938 sx_43 rfl (fun v5941 ev5941 lv5941 uv5941 => ?_)
                      refine g_iconst (by decide) (fun v5942 kv5942 => ?_)
                      refine g_iadd' (fun v5943 ov5943 => ?_)
                      refine g_pfi hIH5938 sx_43 rfl (gz_any _) (fun H5944 eH5944 hIH5944 => ?_)
                      have hJH5944 : JX H5944 := JX_sF eH5944 hJH5938
                      have e5945 : k1_1 = fZ H5944 1 1 := by rw [eH5944, fZ_sF_nc (by omega)]; exact e5939
                      have m5946 : kp54 H H5944 := kp54_F m5940 eH5944 (by omega)
                      refine g_nop ?_
                      refine g_iinc (l' := (fun v5947 => [(0, .ref 43), (1, .int a1), (2, .int v5870), (3, .int v5861), (4, .int v5862), (5, .int v5947), (6, .int v5860)])) rfl rfl (by decide) (by omega) (fun _ => rfl) (fun v5947 ev5947 => ?_)
                      refine g_goto ?_
                      refine gG_pick [0, 1, 2, 3, 4, 5] (l' := [(0, .ref 43), (1, .int a1), (2, .int v5870), (3, .int v5861), (4, .int v5862), (5, .int v5947)]) rfl ?_
                      exact ihL5867 v5870 v5861 v5862 v5947 H5944 hIH5944 hJH5944 e5945 m5946 (by omega) (by omega) (by omega) (by omega) (by omega)
                · refine g_nop ?_
                  refine g_aload_n rfl ?_
                  refine g_gfr hIH5871 sx_43 rfl ?_
                  refine g_aload_n rfl ?_
                  refine g_gfr hIH5871 sx_43 rfl ?_
                  refine g_iload_n rfl ?_
                  refine g_iload rfl ?_
                  refine g_invvi hIH5871 sx_44 rfl rfl rfl rfl (s_94 44 zWo_44 3 zBo_3 a1 (by omega) v5863 H5871 hIH5871 hJH5871) (fun v5950 H5948 r5949 => ?_)
                  obtain rfl := r5949
                  refine g_if_ne (fun c5951 => ?_) (fun c5951 => ?_)
                  · refine g_iconst (by decide) (fun v5952 kv5952 => ?_)
                    refine g_nop ?_
                    refine g_istore_n (l' := [(0, .ref 43), (1, .int a1), (2, .int v5870), (3, .int v5952), (4, .int v5862), (5, .int v5863), (6, .int v5860)]) rfl rfl ?_
                    refine g_nop ?_
                    refine g_iload_n rfl ?_
                    refine g_if_eq (fun c5953 => ?_) (fun c5953 => ?_)
                    · refine g_iinc (l' := (fun v5954 => [(0, .ref 43), (1, .int a1), (2, .int v5870), (3, .int v5952), (4, .int v5862), (5, .int v5954), (6, .int v5860)])) rfl rfl (by decide) (by omega) (fun _ => rfl) (fun v5954 ev5954 => ?_)
                      refine g_goto ?_
                      refine gG_pick [0, 1, 2, 3, 4, 5] (l' := [(0, .ref 43), (1, .int a1), (2, .int v5870), (3, .int v5952), (4, .int v5862), (5, .int v5954)]) rfl ?_
                      exact ihL5867 v5870 v5952 v5862 v5954 H5871 hIH5871 hJH5871 e5872 m5873 (by omega) (by omega) (by omega) (by omega) (by omega)
                    · exfalso; omega
                  · refine g_iconst (by decide) (fun v5955 kv5955 => ?_)
                    refine g_goto ?_
                    refine g_istore_n (l' := [(0, .ref 43), (1, .int a1), (2, .int v5870), (3, .int v5955), (4, .int v5862), (5, .int v5863), (6, .int v5860)]) rfl rfl ?_
                    refine g_nop ?_
                    refine g_iload_n rfl ?_
                    refine g_if_eq (fun c5956 => ?_) (fun c5956 => ?_)
                    · exfalso; omega
                    · refine g_aload_n rfl ?_
                      refine g_aload_n rfl ?_
                      refine g_gfi hIH5871 sx_43 rfl (fun v5957 ev5957 lv5957 uv5957 => ?_)
                      refine g_if_ne (fun c5958 => ?_) (fun c5958 => ?_)
                      · refine g_aload_n rfl ?_
                        refine g_gfi hIH5871 sx_43 rfl (fun v5959 ev5959 lv5959 uv5959 => ?_)
                        refine g_nop ?_
                        refine g_pfi hIH5871 sx_43 rfl (gz_any _) (fun H5960 eH5960 hIH5960 => ?_)
                        have hJH5960 : JX H5960 := JX_sF eH5960 hJH5871
                        have e5961 : k1_1 = fZ H5960 1 1 := by rw [eH5960, fZ_sF_nc (by omega)]; exact e5872
                        have m5962 : kp54 H H5960 := kp54_F m5873 eH5960 (by omega)
                        refine g_aload_n rfl ?_
                        refine g_iload rfl ?_
                        refine g_pfi hIH5960 sx_43 rfl (gz_any _) (fun H5963 eH5963 hIH5963 => ?_)
                        have hJH5963 : JX H5963 := JX_sF eH5963 hJH5960
                        have e5964 : k1_1 = fZ H5963 1 1 := by rw [eH5963, fZ_sF_nc (by omega)]; exact e5961
                        have m5965 : kp54 H H5963 := kp54_F m5962 eH5963 (by omega)
                        refine g_aload_n rfl ?_
                        refine g_dup rfl ?_
                        refine g_gfi hIH5963 sx_43 rfl (fun v5966 ev5966 lv5966 uv5966 => ?_)
                        refine g_iconst (by decide) (fun v5967 kv5967 => ?_)
                        refine g_iadd' (fun v5968 ov5968 => ?_)
                        refine g_pfi hIH5963 sx_43 rfl (gz_any _) (fun H5969 eH5969 hIH5969 => ?_)
                        have hJH5969 : JX H5969 := JX_sF eH5969 hJH5963
                        have e5970 : k1_1 = fZ H5969 1 1 := by rw [eH5969, fZ_sF_nc (by omega)]; exact e5964
                        have m5971 : kp54 H H5969 := kp54_F m5965 eH5969 (by omega)
                        refine g_nop ?_
                        refine g_iinc (l' := (fun v5972 => [(0, .ref 43), (1, .int a1), (2, .int v5870), (3, .int v5955), (4, .int v5862), (5, .int v5972), (6, .int v5860)])) rfl rfl (by decide) (by omega) (fun _ => rfl) (fun v5972 ev5972 => ?_)
                        refine g_goto ?_
                        refine gG_pick [0, 1, 2, 3, 4, 5] (l' := [(0, .ref 43), (1, .int a1), (2, .int v5870), (3, .int v5955), (4, .int v5862), (5, .int v5972)]) rfl ?_
                        exact ihL5867 v5870 v5955 v5862 v5972 H5969 hIH5969 hJH5969 e5970 m5971 (by omega) (by omega) (by omega) (by omega) (by omega)
                      · refine g_iload rfl ?_
                        refine g_goto ?_
                        refine g_pfi hIH5871 sx_43 rfl (gz_any _) (fun H5973 eH5973 hIH5973 => ?_)
                        have hJH5973 : JX H5973 := JX_sF eH5973 hJH5871
                        have e5974 : k1_1 = fZ H5973 1 1 := by rw [eH5973, fZ_sF_nc (by omega)]; exact e5872
                        have m5975 : kp54 H H5973 := kp54_F m5873 eH5973 (by omega)
                        refine g_aload_n rfl ?_
                        refine g_iload rfl ?_
                        refine g_pfi hIH5973 sx_43 rfl (gz_any _) (fun H5976 eH5976 hIH5976 => ?_)
                        have hJH5976 : JX H5976 := JX_sF eH5976 hJH5973
                        have e5977 : k1_1 = fZ H5976 1 1 := by rw [eH5976, fZ_sF_nc (by omega)]; exact e5974
                        have m5978 : kp54 H H5976 := kp54_F m5975 eH5976 (by omega)
                        refine g_aload_n rfl ?_
                        refine g_dup rfl ?_
                        refine g_gfi hIH5976 sx_43 rfl (fun v5979 ev5979 lv5979 uv5979 => ?_)
                        refine g_iconst (by decide) (fun v5980 kv5980 => ?_)
                        refine g_iadd' (fun v5981 ov5981 => ?_)
                        refine g_pfi hIH5976 sx_43 rfl (gz_any _) (fun H5982 eH5982 hIH5982 => ?_)
                        have hJH5982 : JX H5982 := JX_sF eH5982 hJH5976
                        have e5983 : k1_1 = fZ H5982 1 1 := by rw [eH5982, fZ_sF_nc (by omega)]; exact e5977
                        have m5984 : kp54 H H5982 := kp54_F m5978 eH5982 (by omega)
                        refine g_nop ?_
                        refine g_iinc (l' := (fun v5985 => [(0, .ref 43), (1, .int a1), (2, .int v5870), (3, .int v5955), (4, .int v5862), (5, .int v5985), (6, .int v5860)])) rfl rfl (by decide) (by omega) (fun _ => rfl) (fun v5985 ev5985 => ?_)
                        refine g_goto ?_
                        refine gG_pick [0, 1, 2, 3, 4, 5] (l' := [(0, .ref 43), (1, .int a1), (2, .int v5870), (3, .int v5955), (4, .int v5862), (5, .int v5985)]) rfl ?_
                        exact ihL5867 v5870 v5955 v5862 v5985 H5982 hIH5982 hJH5982 e5983 m5984 (by omega) (by omega) (by omega) (by omega) (by omega)
            · refine g_aload_n rfl ?_
              refine g_iload_n rfl ?_
              refine g_iload_n rfl ?_
              refine g_iload rfl ?_
              refine g_invvi hIH5871 sx_43 rfl rfl rfl rfl (s_36 v5870 (by omega) a1 v5863 H5871 hIH5871 hJH5871) (fun v5988 H5986 r5987 => ?_)
              obtain ⟨rfl, bv5988⟩ := r5987
              refine g_if_eq (fun c5989 => ?_) (fun c5989 => ?_)
              · refine g_iload_n rfl ?_
                refine g_iload rfl ?_
                refine g_if2_ne (fun c5990 => ?_) (fun c5990 => ?_)
                · refine g_aload_n rfl ?_
                  refine g_gfr hIH5871 sx_43 rfl ?_
                  refine g_aload_n rfl ?_
                  refine g_gfr hIH5871 sx_43 rfl ?_
                  refine g_iload_n rfl ?_
                  refine g_iload rfl ?_
                  refine g_invvi hIH5871 sx_44 rfl rfl rfl rfl (s_94 44 zWo_44 3 zBo_3 a1 (by omega) v5863 H5871 hIH5871 hJH5871) (fun v5993 H5991 r5992 => ?_)
                  obtain rfl := r5992
                  refine g_if_ne (fun c5994 => ?_) (fun c5994 => ?_)
                  · refine g_iconst (by decide) (fun v5995 kv5995 => ?_)
                    refine g_nop ?_
                    refine g_istore_n (l' := [(0, .ref 43), (1, .int a1), (2, .int v5870), (3, .int v5995), (4, .int v5862), (5, .int v5863), (6, .int v5860)]) rfl rfl ?_
                    refine g_nop ?_
                    refine g_iload_n rfl ?_
                    refine g_if_eq (fun c5996 => ?_) (fun c5996 => ?_)
                    · refine g_iinc (l' := (fun v5997 => [(0, .ref 43), (1, .int a1), (2, .int v5870), (3, .int v5995), (4, .int v5862), (5, .int v5997), (6, .int v5860)])) rfl rfl (by decide) (by omega) (fun _ => rfl) (fun v5997 ev5997 => ?_)
                      refine g_goto ?_
                      refine gG_pick [0, 1, 2, 3, 4, 5] (l' := [(0, .ref 43), (1, .int a1), (2, .int v5870), (3, .int v5995), (4, .int v5862), (5, .int v5997)]) rfl ?_
                      exact ihL5867 v5870 v5995 v5862 v5997 H5871 hIH5871 hJH5871 e5872 m5873 (by omega) (by omega) (by omega) (by omega) (by omega)
                    · exfalso; omega
                  · refine g_iconst (by decide) (fun v5998 kv5998 => ?_)
                    refine g_goto ?_
                    refine g_istore_n (l' := [(0, .ref 43), (1, .int a1), (2, .int v5870), (3, .int v5998), (4, .int v5862), (5, .int v5863), (6, .int v5860)]) rfl rfl ?_
                    refine g_nop ?_
                    refine g_iload_n rfl ?_
                    refine g_if_eq (fun c5999 => ?_) (fun c5999 => ?_)
                    · exfalso; omega
                    · refine g_aload_n rfl ?_
                      refine g_aload_n rfl ?_
                      refine g_gfi hIH5871 sx_43 rfl (fun v6000 ev6000 lv6000 uv6000 => ?_)
                      refine g_if_ne (fun c6001 => ?_) (fun c6001 => ?_)
                      · refine g_aload_n rfl ?_
                        refine g_gfi hIH5871 sx_43 rfl (fun v6002 ev6002 lv6002 uv6002 => ?_)
                        refine g_nop ?_
                        refine g_pfi hIH5871 sx_43 rfl (gz_any _) (fun H6003 eH6003 hIH6003 => ?_)
                        have hJH6003 : JX H6003 := JX_sF eH6003 hJH5871
                        have e6004 : k1_1 = fZ H6003 1 1 := by rw [eH6003, fZ_sF_nc (by omega)]; exact e5872
                        have m6005 : kp54 H H6003 := kp54_F m5873 eH6003 (by omega)
                        refine g_aload_n rfl ?_
                        refine g_iload rfl ?_
                        refine g_pfi hIH6003 sx_43 rfl (gz_any _) (fun H6006 eH6006 hIH6006 => ?_)
                        have hJH6006 : JX H6006 := JX_sF eH6006 hJH6003
                        have e6007 : k1_1 = fZ H6006 1 1 := by rw [eH6006, fZ_sF_nc (by omega)]; exact e6004
                        have m6008 : kp54 H H6006 := kp54_F m6005 eH6006 (by omega)
                        refine g_aload_n rfl ?_
                        refine g_dup rfl ?_
                        refine g_gfi hIH6006 sx_43 rfl (fun v6009 ev6009 lv6009 uv6009 => ?_)
                        refine g_iconst (by decide) (fun v6010 kv6010 => ?_)
                        refine g_iadd' (fun v6011 ov6011 => ?_)
                        refine g_pfi hIH6006 sx_43 rfl (gz_any _) (fun H6012 eH6012 hIH6012 => ?_)
                        have hJH6012 : JX H6012 := JX_sF eH6012 hJH6006
                        have e6013 : k1_1 = fZ H6012 1 1 := by rw [eH6012, fZ_sF_nc (by omega)]; exact e6007
                        have m6014 : kp54 H H6012 := kp54_F m6008 eH6012 (by omega)
                        refine g_nop ?_
                        refine g_iinc (l' := (fun v6015 => [(0, .ref 43), (1, .int a1), (2, .int v5870), (3, .int v5998), (4, .int v5862), (5, .int v6015), (6, .int v5860)])) rfl rfl (by decide) (by omega) (fun _ => rfl) (fun v6015 ev6015 => ?_)
                        refine g_goto ?_
                        refine gG_pick [0, 1, 2, 3, 4, 5] (l' := [(0, .ref 43), (1, .int a1), (2, .int v5870), (3, .int v5998), (4, .int v5862), (5, .int v6015)]) rfl ?_
                        exact ihL5867 v5870 v5998 v5862 v6015 H6012 hIH6012 hJH6012 e6013 m6014 (by omega) (by omega) (by omega) (by omega) (by omega)
                      · refine g_iload rfl ?_
                        refine g_goto ?_
                        refine g_pfi hIH5871 sx_43 rfl (gz_any _) (fun H6016 eH6016 hIH6016 => ?_)
                        have hJH6016 : JX H6016 := JX_sF eH6016 hJH5871
                        have e6017 : k1_1 = fZ H6016 1 1 := by rw [eH6016, fZ_sF_nc (by omega)]; exact e5872
                        have m6018 : kp54 H H6016 := kp54_F m5873 eH6016 (by omega)
                        refine g_aload_n rfl ?_
                        refine g_iload rfl ?_
                        refine g_pfi hIH6016 sx_43 rfl (gz_any _) (fun H6019 eH6019 hIH6019 => ?_)
                        have hJH6019 : JX H6019 := JX_sF eH6019 hJH6016
                        have e6020 : k1_1 = fZ H6019 1 1 := by rw [eH6019, fZ_sF_nc (by omega)]; exact e6017
                        have m6021 : kp54 H H6019 := kp54_F m6018 eH6019 (by omega)
                        refine g_aload_n rfl ?_
                        refine g_dup rfl ?_
                        refine g_gfi hIH6019 sx_43 rfl (fun v6022 ev6022 lv6022 uv6022 => ?_)
                        refine g_iconst (by decide) (fun v6023 kv6023 => ?_)
                        refine g_iadd' (fun v6024 ov6024 => ?_)
                        refine g_pfi hIH6019 sx_43 rfl (gz_any _) (fun H6025 eH6025 hIH6025 => ?_)
                        have hJH6025 : JX H6025 := JX_sF eH6025 hJH6019
                        have e6026 : k1_1 = fZ H6025 1 1 := by rw [eH6025, fZ_sF_nc (by omega)]; exact e6020
                        have m6027 : kp54 H H6025 := kp54_F m6021 eH6025 (by omega)
                        refine g_nop ?_
                        refine g_iinc (l' := (fun v6028 => [(0, .ref 43), (1, .int a1), (2, .int v5870), (3, .int v5998), (4, .int v5862), (5, .int v6028), (6, .int v5860)])) rfl rfl (by decide) (by omega) (fun _ => rfl) (fun v6028 ev6028 => ?_)
                        refine g_goto ?_
                        refine gG_pick [0, 1, 2, 3, 4, 5] (l' := [(0, .ref 43), (1, .int a1), (2, .int v5870), (3, .int v5998), (4, .int v5862), (5, .int v6028)]) rfl ?_
                        exact ihL5867 v5870 v5998 v5862 v6028 H6025 hIH6025 hJH6025 e6026 m6027 (by omega) (by omega) (by omega) (by omega) (by omega)
                · refine g_iload rfl ?_
                  refine g_if_eq (fun c6029 => ?_) (fun c6029 => ?_)
                  · refine g_iload_n rfl ?_
                    refine g_if_eq (fun c6030 => ?_) (fun c6030 => ?_)
                    · refine g_iinc (l' := (fun v6031 => [(0, .ref 43), (1, .int a1), (2, .int v5870), (3, .int v5861), (4, .int v5862), (5, .int v6031), (6, .int v5860)])) rfl rfl (by decide) (by omega) (fun _ => rfl) (fun v6031 ev6031 => ?_)
                      refine g_goto ?_
                      refine gG_pick [0, 1, 2, 3, 4, 5] (l' := [(0, .ref 43), (1, .int a1), (2, .int v5870), (3, .int v5861), (4, .int v5862), (5, .int v6031)]) rfl ?_
                      exact ihL5867 v5870 v5861 v5862 v6031 H5871 hIH5871 hJH5871 e5872 m5873 (by omega) (by omega) (by omega) (by omega) (by omega)
                    · refine g_aload_n rfl ?_
                      refine g_aload_n rfl ?_
                      refine g_gfi hIH5871 sx_43 rfl (fun v6032 ev6032 lv6032 uv6032 => ?_)
                      refine g_if_ne (fun c6033 => ?_) (fun c6033 => ?_)
                      · refine g_aload_n rfl ?_
                        refine g_gfi hIH5871 sx_43 rfl (fun v6034 ev6034 lv6034 uv6034 => ?_)
                        refine g_nop ?_
                        refine g_pfi hIH5871 sx_43 rfl (gz_any _) (fun H6035 eH6035 hIH6035 => ?_)
                        have hJH6035 : JX H6035 := JX_sF eH6035 hJH5871
                        have e6036 : k1_1 = fZ H6035 1 1 := by rw [eH6035, fZ_sF_nc (by omega)]; exact e5872
                        have m6037 : kp54 H H6035 := kp54_F m5873 eH6035 (by omega)
                        refine g_aload_n rfl ?_
                        refine g_iload rfl ?_
                        refine g_pfi hIH6035 sx_43 rfl (gz_any _) (fun H6038 eH6038 hIH6038 => ?_)
                        have hJH6038 : JX H6038 := JX_sF eH6038 hJH6035
                        have e6039 : k1_1 = fZ H6038 1 1 := by rw [eH6038, fZ_sF_nc (by omega)]; exact e6036
                        have m6040 : kp54 H H6038 := kp54_F m6037 eH6038 (by omega)
                        refine g_aload_n rfl ?_
                        refine g_dup rfl ?_
                        refine g_gfi hIH6038 sx_43 rfl (fun v6041 ev6041 lv6041 uv6041 => ?_)
                        refine g_iconst (by decide) (fun v6042 kv6042 => ?_)
                        refine g_iadd' (fun v6043 ov6043 => ?_)
                        refine g_pfi hIH6038 sx_43 rfl (gz_any _) (fun H6044 eH6044 hIH6044 => ?_)
                        have hJH6044 : JX H6044 := JX_sF eH6044 hJH6038
                        have e6045 : k1_1 = fZ H6044 1 1 := by rw [eH6044, fZ_sF_nc (by omega)]; exact e6039
                        have m6046 : kp54 H H6044 := kp54_F m6040 eH6044 (by omega)
                        refine g_nop ?_
                        refine g_iinc (l' := (fun v6047 => [(0, .ref 43), (1, .int a1), (2, .int v5870), (3, .int v5861), (4, .int v5862), (5, .int v6047), (6, .int v5860)])) rfl rfl (by decide) (by omega) (fun _ => rfl) (fun v6047 ev6047 => ?_)
                        refine g_goto ?_
                        refine gG_pick [0, 1, 2, 3, 4, 5] (l' := [(0, .ref 43), (1, .int a1), (2, .int v5870), (3, .int v5861), (4, .int v5862), (5, .int v6047)]) rfl ?_
                        exact ihL5867 v5870 v5861 v5862 v6047 H6044 hIH6044 hJH6044 e6045 m6046 (by omega) (by omega) (by omega) (by omega) (by omega)
                      · refine g_iload rfl ?_
                        refine g_goto ?_
                        refine g_pfi hIH5871 sx_43 rfl (gz_any _) (fun H6048 eH6048 hIH6048 => ?_)
                        have hJH6048 : JX H6048 := JX_sF eH6048 hJH5871
                        have e6049 : k1_1 = fZ H6048 1 1 := by rw [eH6048, fZ_sF_nc (by omega)]; exact e5872
                        have m6050 : kp54 H H6048 := kp54_F m5873 eH6048 (by omega)
                        refine g_aload_n rfl ?_
                        refine g_iload rfl ?_
                        refine g_pfi hIH6048 sx_43 rfl (gz_any _) (fun H6051 eH6051 hIH6051 => ?_)
                        have hJH6051 : JX H6051 := JX_sF eH6051 hJH6048
                        have e6052 : k1_1 = fZ H6051 1 1 := by rw [eH6051, fZ_sF_nc (by omega)]; exact e6049
                        have m6053 : kp54 H H6051 := kp54_F m6050 eH6051 (by omega)
                        refine g_aload_n rfl ?_
                        refine g_dup rfl ?_
                        refine g_gfi hIH6051 sx_43 rfl (fun v6054 ev6054 lv6054 uv6054 => ?_)
                        refine g_iconst (by decide) (fun v6055 kv6055 => ?_)
                        refine g_iadd' (fun v6056 ov6056 => ?_)
                        refine g_pfi hIH6051 sx_43 rfl (gz_any _) (fun H6057 eH6057 hIH6057 => ?_)
                        have hJH6057 : JX H6057 := JX_sF eH6057 hJH6051
                        have e6058 : k1_1 = fZ H6057 1 1 := by rw [eH6057, fZ_sF_nc (by omega)]; exact e6052
                        have m6059 : kp54 H H6057 := kp54_F m6053 eH6057 (by omega)
                        refine g_nop ?_
                        refine g_iinc (l' := (fun v6060 => [(0, .ref 43), (1, .int a1), (2, .int v5870), (3, .int v5861), (4, .int v5862), (5, .int v6060), (6, .int v5860)])) rfl rfl (by decide) (by omega) (fun _ => rfl) (fun v6060 ev6060 => ?_)
                        refine g_goto ?_
                        refine gG_pick [0, 1, 2, 3, 4, 5] (l' := [(0, .ref 43), (1, .int a1), (2, .int v5870), (3, .int v5861), (4, .int v5862), (5, .int v6060)]) rfl ?_
                        exact ihL5867 v5870 v5861 v5862 v6060 H6057 hIH6057 hJH6057 e6058 m6059 (by omega) (by omega) (by omega) (by omega) (by omega)
                  · refine g_nop ?_
                    refine g_aload_n rfl ?_
                    refine g_gfr hIH5871 sx_43 rfl ?_
                    refine g_aload_n rfl ?_
                    refine g_gfr hIH5871 sx_43 rfl ?_
                    refine g_iload_n rfl ?_
                    refine g_iload rfl ?_
                    refine g_invvi hIH5871 sx_44 rfl rfl rfl rfl (s_94 44 zWo_44 3 zBo_3 a1 (by omega) v5863 H5871 hIH5871 hJH5871) (fun v6063 H6061 r6062 => ?_)
                    obtain rfl := r6062
                    refine g_if_ne (fun c6064 => ?_) (fun c6064 => ?_)
                    · refine g_iconst (by decide) (fun v6065 kv6065 => ?_)
                      refine g_nop ?_
                      refine g_istore_n (l' := [(0, .ref 43), (1, .int a1), (2, .int v5870), (3, .int v6065), (4, .int v5862), (5, .int v5863), (6, .int v5860)]) rfl rfl ?_
                      refine g_nop ?_
                      refine g_iload_n rfl ?_
                      refine g_if_eq (fun c6066 => ?_) (fun c6066 => ?_)
                      · refine g_iinc (l' := (fun v6067 => [(0, .ref 43), (1, .int a1), (2, .int v5870), (3, .int v6065), (4, .int v5862), (5, .int v6067), (6, .int v5860)])) rfl rfl (by decide) (by omega) (fun _ => rfl) (fun v6067 ev6067 => ?_)
                        refine g_goto ?_
                        refine gG_pick [0, 1, 2, 3, 4, 5] (l' := [(0, .ref 43), (1, .int a1), (2, .int v5870), (3, .int v6065), (4, .int v5862), (5, .int v6067)]) rfl ?_
                        exact ihL5867 v5870 v6065 v5862 v6067 H5871 hIH5871 hJH5871 e5872 m5873 (by omega) (by omega) (by omega) (by omega) (by omega)
                      · exfalso; omega
                    · refine g_iconst (by decide) (fun v6068 kv6068 => ?_)
                      refine g_goto ?_
                      refine g_istore_n (l' := [(0, .ref 43), (1, .int a1), (2, .int v5870), (3, .int v6068), (4, .int v5862), (5, .int v5863), (6, .int v5860)]) rfl rfl ?_
                      refine g_nop ?_
                      refine g_iload_n rfl ?_
                      refine g_if_eq (fun c6069 => ?_) (fun c6069 => ?_)
                      · exfalso; omega
                      · refine g_aload_n rfl ?_
                        refine g_aload_n rfl ?_
                        refine g_gfi hIH5871 sx_43 rfl (fun v6070 ev6070 lv6070 uv6070 => ?_)
                        refine g_if_ne (fun c6071 => ?_) (fun c6071 => ?_)
                        · refine g_aload_n rfl ?_
                          refine g_gfi hIH5871 sx_43 rfl (fun v6072 ev6072 lv6072 uv6072 => ?_)
                          refine g_nop ?_
                          refine g_pfi hIH5871 sx_43 rfl (gz_any _) (fun H6073 eH6073 hIH6073 => ?_)
                          have hJH6073 : JX H6073 := JX_sF eH6073 hJH5871
                          have e6074 : k1_1 = fZ H6073 1 1 := by rw [eH6073, fZ_sF_nc (by omega)]; exact e5872
                          have m6075 : kp54 H H6073 := kp54_F m5873 eH6073 (by omega)
                          refine g_aload_n rfl ?_
                          refine g_iload rfl ?_
                          refine g_pfi hIH6073 sx_43 rfl (gz_any _) (fun H6076 eH6076 hIH6076 => ?_)
                          have hJH6076 : JX H6076 := JX_sF eH6076 hJH6073
                          have e6077 : k1_1 = fZ H6076 1 1 := by rw [eH6076, fZ_sF_nc (by omega)]; exact e6074
                          have m6078 : kp54 H H6076 := kp54_F m6075 eH6076 (by omega)
                          refine g_aload_n rfl ?_
                          refine g_dup rfl ?_
                          refine g_gfi hIH6076 sx_43 rfl (fun v6079 ev6079 lv6079 uv6079 => ?_)
                          refine g_iconst (by decide) (fun v6080 kv6080 => ?_)
                          refine g_iadd' (fun v6081 ov6081 => ?_)
                          refine g_pfi hIH6076 sx_43 rfl (gz_any _) (fun H6082 eH6082 hIH6082 => ?_)
                          have hJH6082 : JX H6082 := JX_sF eH6082 hJH6076
                          have e6083 : k1_1 = fZ H6082 1 1 := by rw [eH6082, fZ_sF_nc (by omega)]; exact e6077
                          have m6084 : kp54 H H6082 := kp54_F m6078 eH6082 (by omega)
                          refine g_nop ?_
                          refine g_iinc (l' := (fun v6085 => [(0, .ref 43), (1, .int a1), (2, .int v5870), (3, .int v6068), (4, .int v5862), (5, .int v6085), (6, .int v5860)])) rfl rfl (by decide) (by omega) (fun _ => rfl) (fun v6085 ev6085 => ?_)
                          refine g_goto ?_
                          refine gG_pick [0, 1, 2, 3, 4, 5] (l' := [(0, .ref 43), (1, .int a1), (2, .int v5870), (3, .int v6068), (4, .int v5862), (5, .int v6085)]) rfl ?_
                          exact ihL5867 v5870 v6068 v5862 v6085 H6082 hIH6082 hJH6082 e6083 m6084 (by omega) (by omega) (by omega) (by omega) (by omega)
                        · refine g_iload rfl ?_
                          refine g_goto ?_
                          refine g_pfi hIH5871 sx_43 rfl (gz_any _) (fun H6086 eH6086 hIH6086 => ?_)
                          have hJH6086 : JX H6086 := JX_sF eH6086 hJH5871
                          have e6087 : k1_1 = fZ H6086 1 1 := by rw [eH6086, fZ_sF_nc (by omega)]; exact e5872
                          have m6088 : kp54 H H6086 := kp54_F m5873 eH6086 (by omega)
                          refine g_aload_n rfl ?_
                          refine g_iload rfl ?_
                          refine g_pfi hIH6086 sx_43 rfl (gz_any _) (fun H6089 eH6089 hIH6089 => ?_)
                          have hJH6089 : JX H6089 := JX_sF eH6089 hJH6086
                          have e6090 : k1_1 = fZ H6089 1 1 := by rw [eH6089, fZ_sF_nc (by omega)]; exact e6087
                          have m6091 : kp54 H H6089 := kp54_F m6088 eH6089 (by omega)
                          refine g_aload_n rfl ?_
                          refine g_dup rfl ?_
                          refine g_gfi hIH6089 sx_43 rfl (fun v6092 ev6092 lv6092 uv6092 => ?_)
                          refine g_iconst (by decide) (fun v6093 kv6093 => ?_)
                          refine g_iadd' (fun v6094 ov6094 => ?_)
                          refine g_pfi hIH6089 sx_43 rfl (gz_any _) (fun H6095 eH6095 hIH6095 => ?_)
                          have hJH6095 : JX H6095 := JX_sF eH6095 hJH6089
                          have e6096 : k1_1 = fZ H6095 1 1 := by rw [eH6095, fZ_sF_nc (by omega)]; exact e6090
                          have m6097 : kp54 H H6095 := kp54_F m6091 eH6095 (by omega)
                          refine g_nop ?_
                          refine g_iinc (l' := (fun v6098 => [(0, .ref 43), (1, .int a1), (2, .int v5870), (3, .int v6068), (4, .int v5862), (5, .int v6098), (6, .int v5860)])) rfl rfl (by decide) (by omega) (fun _ => rfl) (fun v6098 ev6098 => ?_)
                          refine g_goto ?_
                          refine gG_pick [0, 1, 2, 3, 4, 5] (l' := [(0, .ref 43), (1, .int a1), (2, .int v5870), (3, .int v6068), (4, .int v5862), (5, .int v6098)]) rfl ?_
                          exact ihL5867 v5870 v6068 v5862 v6098 H6095 hIH6095 hJH6095 e6096 m6097 (by omega) (by omega) (by omega) (by omega) (by omega)
              · refine g_aload_n rfl ?_
                refine g_gfr hIH5871 sx_43 rfl ?_
                refine g_gfr hIH5871 sx_24 rfl ?_
                refine g_gfr hIH5871 sx_25 rfl ?_
                refine g_iload_n rfl ?_
                refine g_iaload hIH5871 sx_27 rfl (by omega) (fun v6099 ev6099 lv6099 uv6099 => ?_)
                refine g_istore (l' := [(0, .ref 43), (1, .int a1), (2, .int v5870), (3, .int v5861), (4, .int v5862), (5, .int v5863), (6, .int v5860), (7, .int v6099)]) rfl rfl ?_
                refine g_iload rfl ?_
                refine g_iload_n rfl ?_
                refine g_if2_eq (fun c6100 => ?_) (fun c6100 => ?_)
                · refine g_iinc (l' := (fun v6101 => [(0, .ref 43), (1, .int a1), (2, .int v6101), (3, .int v5861), (4, .int v5862), (5, .int v5863), (6, .int v5860), (7, .int v6099)])) rfl rfl (by decide) (by omega) (fun _ => rfl) (fun v6101 ev6101 => ?_)
                  refine g_goto ?_
                  refine gG_pick [0, 1, 2, 3, 4, 5, 6] (l' := [(0, .ref 43), (1, .int a1), (2, .int v6101), (3, .int v5861), (4, .int v5862), (5, .int v5863), (6, .int v5860)]) rfl ?_
                  exact ihL5874 v6101 H5871 hIH5871 hJH5871 e5872 m5873 (by omega) (by omega)
                · refine g_aload_n rfl ?_
                  refine g_gfr hIH5871 sx_43 rfl ?_
                  refine g_aload_n rfl ?_
                  refine g_gfr hIH5871 sx_43 rfl ?_
                  refine g_iload rfl ?_
                  refine g_aload_n rfl ?_
                  refine g_gfr hIH5871 sx_43 rfl ?_
                  refine g_gfr hIH5871 sx_3 rfl ?_
                  refine g_iload rfl ?_
                  refine g_iaload hIH5871 sx_6 rfl (by omega) (fun v6102 ev6102 lv6102 uv6102 => ?_)
                  refine g_invvi hIH5871 sx_44 rfl rfl rfl rfl (v_93 44 zWo_44 3 zBo_3 v6099 (by omega) v6102 H5871 hIH5871 hJH5871) (fun v6105 H6103 r6104 => ?_)
                  obtain ⟨hIH6103, hJH6103, w6106, m6107⟩ := r6104
                  have e6108 : k1_1 = fZ H6103 1 1 := e5872.trans w6106.symm
                  have m6109 : kp54 H H6103 := kp54_t m5873 m6107
                  refine g_pop rfl ?_
                  refine g_nop ?_
                  refine g_iinc (l' := (fun v6110 => [(0, .ref 43), (1, .int a1), (2, .int v6110), (3, .int v5861), (4, .int v5862), (5, .int v5863), (6, .int v5860), (7, .int v6099)])) rfl rfl (by decide) (by omega) (fun _ => rfl) (fun v6110 ev6110 => ?_)
                  refine g_goto ?_
                  refine gG_pick [0, 1, 2, 3, 4, 5, 6] (l' := [(0, .ref 43), (1, .int a1), (2, .int v6110), (3, .int v5861), (4, .int v5862), (5, .int v5863), (6, .int v5860)]) rfl ?_
                  exact ihL5874 v6110 H6103 hIH6103 hJH6103 e6108 m6109 (by omega) (by omega)
        exact L5874 _ v5860 H5864 hIH5864 hJH5864 e5865 m5866 (by omega) (Nat.lt_succ_self _)
  refine g_aload_n rfl ?_
  refine g_bipush (by decide) (fun v6111 kv6111 => ?_)
  refine g_pfi hI sx_43 rfl (gz_any _) (fun H6112 eH6112 hIH6112 => ?_)
  have hJH6112 : JX H6112 := JX_sF eH6112 hJ
  have e6113 : k1_1 = fZ H6112 1 1 := by rw [eH6112, fZ_sF_nc (by omega)]; exact ek1_1
  have m6114 : kp54 H H6112 := kp54_F mkfr eH6112 (by omega)
  refine g_aload_n rfl ?_
  refine g_bipush (by decide) (fun v6115 kv6115 => ?_)
  refine g_pfi hIH6112 sx_43 rfl (gz_any _) (fun H6116 eH6116 hIH6116 => ?_)
  have hJH6116 : JX H6116 := JX_sF eH6116 hJH6112
  have e6117 : k1_1 = fZ H6116 1 1 := by rw [eH6116, fZ_sF_nc (by omega)]; exact e6113
  have m6118 : kp54 H H6116 := kp54_F m6114 eH6116 (by omega)
  refine g_aload_n rfl ?_
  refine g_iconst (by decide) (fun v6119 kv6119 => ?_)
  refine g_pfi hIH6116 sx_43 rfl (gz_any _) (fun H6120 eH6120 hIH6120 => ?_)
  have hJH6120 : JX H6120 := JX_sF eH6120 hJH6116
  have e6121 : k1_1 = fZ H6120 1 1 := by rw [eH6120, fZ_sF_nc (by omega)]; exact e6117
  have m6122 : kp54 H H6120 := kp54_F m6118 eH6120 (by omega)
  refine g_aload_n rfl ?_
  refine g_gfr hIH6120 sx_43 rfl ?_
  refine g_invvv hIH6120 sx_44 rfl rfl rfl rfl (v_83 44 zWo_44 H6120 hIH6120 hJH6120) (fun H6123 r6124 => ?_)
  obtain ⟨hIH6123, hJH6123, w6125, m6126⟩ := r6124
  have e6127 : k1_1 = fZ H6123 1 1 := e6121.trans w6125.symm
  have m6128 : kp54 H H6123 := kp54_t m6122 m6126
  refine g_iconst (by decide) (fun v6129 kv6129 => ?_)
  refine g_istore_n (l' := [(0, .ref 43), (1, .int a1), (2, .int v6129)]) rfl rfl ?_
  refine g_aload_n rfl ?_
  refine g_gfr hIH6123 sx_43 rfl ?_
  refine g_aload_n rfl ?_
  refine g_gfr hIH6123 sx_43 rfl ?_
  refine g_iload_n rfl ?_
  refine g_iconst (by decide) (fun v6130 kv6130 => ?_)
  refine g_invvi hIH6123 sx_44 rfl rfl rfl rfl (s_94 44 zWo_44 3 zBo_3 a1 (by omega) v6130 H6123 hIH6123 hJH6123) (fun v6133 H6131 r6132 => ?_)
  obtain rfl := r6132
  refine g_if_ne (fun c6134 => ?_) (fun c6134 => ?_)
  · refine g_iconst (by decide) (fun v6135 kv6135 => ?_)
    refine g_nop ?_
    refine g_istore_n (l' := [(0, .ref 43), (1, .int a1), (2, .int v6129), (3, .int v6135)]) rfl rfl ?_
    refine g_aload_n rfl ?_
    refine g_gfr hIH6123 sx_43 rfl ?_
    refine g_gfr hIH6123 sx_3 rfl ?_
    refine g_iload_n rfl ?_
    refine g_iaload hIH6123 sx_7 rfl (by omega) (fun v6136 ev6136 lv6136 uv6136 => ?_)
    refine g_iconst (by decide) (fun v6137 kv6137 => ?_)
    refine g_if2_eq (fun c6138 => ?_) (fun c6138 => ?_)
    · refine g_iconst (by decide) (fun v6139 kv6139 => ?_)
      refine g_goto ?_
      refine g_istore (l' := [(0, .ref 43), (1, .int a1), (2, .int v6129), (3, .int v6135), (4, .int v6139)]) rfl rfl ?_
      refine g_iconst (by decide) (fun v6140 kv6140 => ?_)
      refine g_istore (l' := [(0, .ref 43), (1, .int a1), (2, .int v6129), (3, .int v6135), (4, .int v6139), (5, .int v6140)]) rfl rfl ?_
      refine g_nop ?_
      exact L5867 _ v6129 v6135 v6139 v6140 H6123 hIH6123 hJH6123 e6127 m6128 (by omega) (by omega) (by omega) (by omega) (Nat.lt_succ_self _)
    · refine g_aload_n rfl ?_
      refine g_gfr hIH6123 sx_43 rfl ?_
      refine g_gfr hIH6123 sx_3 rfl ?_
      refine g_iload_n rfl ?_
      refine g_ialoadk hIH6123 sx_7 rfl (by omega) ev6136 ?_
      refine g_bipush (by decide) (fun v6141 kv6141 => ?_)
      refine g_if2_ne (fun c6142 => ?_) (fun c6142 => ?_)
      · refine g_iconst (by decide) (fun v6143 kv6143 => ?_)
        refine g_nop ?_
        refine g_istore (l' := [(0, .ref 43), (1, .int a1), (2, .int v6129), (3, .int v6135), (4, .int v6143)]) rfl rfl ?_
        refine g_iconst (by decide) (fun v6144 kv6144 => ?_)
        refine g_istore (l' := [(0, .ref 43), (1, .int a1), (2, .int v6129), (3, .int v6135), (4, .int v6143), (5, .int v6144)]) rfl rfl ?_
        refine g_nop ?_
        exact L5867 _ v6129 v6135 v6143 v6144 H6123 hIH6123 hJH6123 e6127 m6128 (by omega) (by omega) (by omega) (by omega) (Nat.lt_succ_self _)
      · refine g_nop ?_
        refine g_iconst (by decide) (fun v6145 kv6145 => ?_)
        refine g_goto ?_
        refine g_istore (l' := [(0, .ref 43), (1, .int a1), (2, .int v6129), (3, .int v6135), (4, .int v6145)]) rfl rfl ?_
        refine g_iconst (by decide) (fun v6146 kv6146 => ?_)
        refine g_istore (l' := [(0, .ref 43), (1, .int a1), (2, .int v6129), (3, .int v6135), (4, .int v6145), (5, .int v6146)]) rfl rfl ?_
        refine g_nop ?_
        exact L5867 _ v6129 v6135 v6145 v6146 H6123 hIH6123 hJH6123 e6127 m6128 (by omega) (by omega) (by omega) (by omega) (Nat.lt_succ_self _)
  · refine g_iconst (by decide) (fun v6147 kv6147 => ?_)
    refine g_goto ?_
    refine g_istore_n (l' := [(0, .ref 43), (1, .int a1), (2, .int v6129), (3, .int v6147)]) rfl rfl ?_
    refine g_aload_n rfl ?_
    refine g_gfr hIH6123 sx_43 rfl ?_
    refine g_gfr hIH6123 sx_3 rfl ?_
    refine g_iload_n rfl ?_
    refine g_iaload hIH6123 sx_7 rfl (by omega) (fun v6148 ev6148 lv6148 uv6148 => ?_)
    refine g_iconst (by decide) (fun v6149 kv6149 => ?_)
    refine g_if2_eq (fun c6150 => ?_) (fun c6150 => ?_)
    · refine g_iconst (by decide) (fun v6151 kv6151 => ?_)
      refine g_goto ?_
      refine g_istore (l' := [(0, .ref 43), (1, .int a1), (2, .int v6129), (3, .int v6147), (4, .int v6151)]) rfl rfl ?_
      refine g_iconst (by decide) (fun v6152 kv6152 => ?_)
      refine g_istore (l' := [(0, .ref 43), (1, .int a1), (2, .int v6129), (3, .int v6147), (4, .int v6151), (5, .int v6152)]) rfl rfl ?_
      refine g_nop ?_
      exact L5867 _ v6129 v6147 v6151 v6152 H6123 hIH6123 hJH6123 e6127 m6128 (by omega) (by omega) (by omega) (by omega) (Nat.lt_succ_self _)
    · refine g_aload_n rfl ?_
      refine g_gfr hIH6123 sx_43 rfl ?_
      refine g_gfr hIH6123 sx_3 rfl ?_
      refine g_iload_n rfl ?_
      refine g_ialoadk hIH6123 sx_7 rfl (by omega) ev6148 ?_
      refine g_bipush (by decide) (fun v6153 kv6153 => ?_)
      refine g_if2_ne (fun c6154 => ?_) (fun c6154 => ?_)
      · refine g_iconst (by decide) (fun v6155 kv6155 => ?_)
        refine g_nop ?_
        refine g_istore (l' := [(0, .ref 43), (1, .int a1), (2, .int v6129), (3, .int v6147), (4, .int v6155)]) rfl rfl ?_
        refine g_iconst (by decide) (fun v6156 kv6156 => ?_)
        refine g_istore (l' := [(0, .ref 43), (1, .int a1), (2, .int v6129), (3, .int v6147), (4, .int v6155), (5, .int v6156)]) rfl rfl ?_
        refine g_nop ?_
        exact L5867 _ v6129 v6147 v6155 v6156 H6123 hIH6123 hJH6123 e6127 m6128 (by omega) (by omega) (by omega) (by omega) (Nat.lt_succ_self _)
      · refine g_nop ?_
        refine g_iconst (by decide) (fun v6157 kv6157 => ?_)
        refine g_goto ?_
        refine g_istore (l' := [(0, .ref 43), (1, .int a1), (2, .int v6129), (3, .int v6147), (4, .int v6157)]) rfl rfl ?_
        refine g_iconst (by decide) (fun v6158 kv6158 => ?_)
        refine g_istore (l' := [(0, .ref 43), (1, .int a1), (2, .int v6129), (3, .int v6147), (4, .int v6157), (5, .int v6158)]) rfl rfl ?_
        refine g_nop ?_
        exact L5867 _ v6129 v6147 v6157 v6158 H6123 hIH6123 hJH6123 e6127 m6128 (by omega) (by omega) (by omega) (by omega) (Nat.lt_succ_self _)
set_option maxRecDepth 4000 in
set_option maxHeartbeats 4000000 in
/-- X5.step -/
theorem v_53 (a1 : Int32) (ha1 : 0 ≤ a1.toInt ∧ a1.toInt ≤ 59) (H : mzH) (hI : gI SX H) (hJ : JX H) : gCall 53 [.ref 24, .int a1] H (gRi (fun v H' => gI SX H' ∧ JX H' ∧ fZ H' 1 1 = fZ H 1 1 ∧ kp54 H H')) := by
  obtain ⟨k1_1, ek1_1⟩ : ∃ z, z = fZ H 1 1 := ⟨_, rfl⟩
  have ik1_1 : k1_1.toInt = (fZ H 1 1).toInt := by rw [← ek1_1]
  have bk1_1 : 0 ≤ k1_1.toInt ∧ k1_1.toInt ≤ 900 := by rw [ek1_1]; exact fZ_of hI sx_1 rfl
  have mkfr : kp54 H H := kp54_r
  refine gG_call [(0, .ref 24), (1, .int a1)] ⟨rfl, rfl, trivial⟩ ?_
  show gG 2 zB_53 (mzBlk zB_53 0) [(0, .ref 24), (1, .int a1)] [] H 0 0 _
  refine g_aload_n rfl ?_
  refine g_gfr hI sx_24 rfl ?_
  refine g_aload_n rfl ?_
  refine g_gfr hI sx_24 rfl ?_
  refine g_aload_n rfl ?_
  refine g_gfr hI sx_24 rfl ?_
  refine g_gfr hI sx_25 rfl ?_
  refine g_iload_n rfl ?_
  refine g_iaload hI sx_27 rfl (by omega) (fun v45 ev45 lv45 uv45 => ?_)
  refine g_aload_n rfl ?_
  refine g_gfr hI sx_24 rfl ?_
  refine g_iload_n rfl ?_
  refine g_invvi hI sx_25 rfl rfl rfl rfl (s_27 25 zCo_25 a1 (by omega) H hI hJ) (fun v48 H46 r47 => ?_)
  obtain rfl := r47
  refine g_invvi hI sx_28 rfl rfl rfl rfl (v_93 28 zWo_28 3 zBo_3 v45 (by omega) v48 H hI hJ) (fun v51 H49 r50 => ?_)
  obtain ⟨hIH49, hJH49, w52, m53⟩ := r50
  have e54 : k1_1 = fZ H49 1 1 := ek1_1.trans w52.symm
  have m55 : kp54 H H49 := kp54_t mkfr m53
  exact g_iret ⟨_, rfl, hIH49, hJH49, (e54.symm.trans ek1_1), m55⟩
set_option maxRecDepth 4000 in
set_option maxHeartbeats 4000000 in
/-- X5.goTo -/
theorem v_54 (a1 : Int32) (H : mzH) (hI : gI SX H) (hJ : JX H) : gCall 54 [.ref 24, .int a1] H (gRi (fun v H' => gI SX H' ∧ JX H' ∧ (0 ≤ v.toInt ∧ v.toInt ≤ 60) ∧ fZ H' 1 1 = fZ H 1 1 ∧ kp54 H H')) := by
  obtain ⟨k1_1, ek1_1⟩ : ∃ z, z = fZ H 1 1 := ⟨_, rfl⟩
  have ik1_1 : k1_1.toInt = (fZ H 1 1).toInt := by rw [← ek1_1]
  have bk1_1 : 0 ≤ k1_1.toInt ∧ k1_1.toInt ≤ 900 := by rw [ek1_1]; exact fZ_of hI sx_1 rfl
  have mkfr : kp54 H H := kp54_r
  refine gG_call [(0, .ref 24), (1, .int a1)] ⟨rfl, rfl, trivial⟩ ?_
  show gG 3 zB_54 (mzBlk zB_54 0) [(0, .ref 24), (1, .int a1)] [] H 0 0 _
  refine g_aload_n rfl ?_
  refine g_gfr hI sx_24 rfl ?_
  refine g_invvv hI sx_28 rfl rfl rfl rfl (v_83 28 zWo_28 H hI hJ) (fun H295 r296 => ?_)
  obtain ⟨hIH295, hJH295, w297, m298⟩ := r296
  have e299 : k1_1 = fZ H295 1 1 := ek1_1.trans w297.symm
  have m300 : kp54 H H295 := kp54_t mkfr m298
  refine g_iconst (by decide) (fun v301 kv301 => ?_)
  refine g_istore_n (l' := [(0, .ref 24), (1, .int a1), (2, .int v301)]) rfl rfl ?_
  refine g_nop ?_
  have L306 : ∀ (N : Nat) (v302 : Int32) (H303 : mzH), gI SX H303 → JX H303 → k1_1 = fZ H303 1 1 → kp54 H H303 → (0 ≤ v302.toInt ∧ v302.toInt ≤ 60) → (60 - v302.toInt).toNat < N → gG 3 zB_54 (mzBlk zB_54 1) [(0, .ref 24), (1, .int a1), (2, .int v302)] [] H303 0 0 (gRi (fun v H' => gI SX H' ∧ JX H' ∧ (0 ≤ v.toInt ∧ v.toInt ≤ 60) ∧ fZ H' 1 1 = fZ H 1 1 ∧ kp54 H H')) := by
    intro N
    induction N with
    | zero => intro v302 H303 hIH303 hJH303 e304 m305 bv302 hmL306; exact absurd hmL306 (Nat.not_lt_zero _)
    | succ N ihL306 =>
      intro v302 H303 hIH303 hJH303 e304 m305 bv302 hmL306
      refine g_iload_n rfl ?_
      refine g_aload_n rfl ?_
      refine g_gfr hIH303 sx_24 rfl ?_
      refine g_gfi hIH303 sx_25 rfl (fun v307 ev307 lv307 uv307 => ?_)
      refine g_if2_ge (fun c308 => ?_) (fun c308 => ?_)
      · refine g_iload_n rfl ?_
        exact g_iret ⟨_, rfl, hIH303, hJH303, (by omega), (e304.symm.trans ek1_1), m305⟩
      · refine g_aload_n rfl ?_
        refine g_gfr hIH303 sx_24 rfl ?_
        refine g_iload_n rfl ?_
        refine g_invvi hIH303 sx_25 rfl rfl rfl rfl (s_27 25 zCo_25 v302 (by omega) H303 hIH303 hJH303) (fun v311 H309 r310 => ?_)
        obtain rfl := r310
        refine g_iload_n rfl ?_
        refine g_if2_gt (fun c312 => ?_) (fun c312 => ?_)
        · refine g_iload_n rfl ?_
          exact g_iret ⟨_, rfl, hIH303, hJH303, (by omega), (e304.symm.trans ek1_1), m305⟩
        · refine g_aload_n rfl ?_
          refine g_gfr hIH303 sx_24 rfl ?_
          refine g_aload_n rfl ?_
          refine g_gfr hIH303 sx_24 rfl ?_
          refine g_aload_n rfl ?_
          refine g_gfr hIH303 sx_24 rfl ?_
          refine g_gfr hIH303 sx_25 rfl ?_
          refine g_iload_n rfl ?_
          refine g_iaload hIH303 sx_27 rfl (by omega) (fun v313 ev313 lv313 uv313 => ?_)
          refine g_aload_n rfl ?_
          refine g_gfr hIH303 sx_24 rfl ?_
          refine g_iload_n rfl ?_
          refine g_invvi hIH303 sx_25 rfl rfl rfl rfl (s_27 25 zCo_25 v302 (by omega) H303 hIH303 hJH303) (fun v316 H314 r315 => ?_)
          obtain rfl := r315
          refine g_invvi hIH303 sx_28 rfl rfl rfl rfl (v_93 28 zWo_28 3 zBo_3 v313 (by omega) v316 H303 hIH303 hJH303) (fun v319 H317 r318 => ?_)
          obtain ⟨hIH317, hJH317, w320, m321⟩ := r318
          have e322 : k1_1 = fZ H317 1 1 := e304.trans w320.symm
          have m323 : kp54 H H317 := kp54_t m305 m321
          refine g_pop rfl ?_
          refine g_iinc (l' := (fun v324 => [(0, .ref 24), (1, .int a1), (2, .int v324)])) rfl rfl (by decide) (by omega) (fun _ => rfl) (fun v324 ev324 => ?_)
          refine g_goto ?_
          exact ihL306 v324 H317 hIH317 hJH317 e322 m323 (by omega) (by omega)
  exact L306 _ v301 H295 hIH295 hJH295 e299 m300 (by omega) (Nat.lt_succ_self _)
set_option maxRecDepth 4000 in
set_option maxHeartbeats 4000000 in
/-- X5.worldBy -/
theorem v_55 (a1 : Int32) (H : mzH) (hI : gI SX H) (hJ : JX H) : gCall 55 [.ref 24, .int a1] H (gRa 28 (fun H' => gI SX H' ∧ JX H' ∧ fZ H' 1 1 = fZ H 1 1 ∧ kp54 H H')) := by
  obtain ⟨k1_1, ek1_1⟩ : ∃ z, z = fZ H 1 1 := ⟨_, rfl⟩
  have ik1_1 : k1_1.toInt = (fZ H 1 1).toInt := by rw [← ek1_1]
  have bk1_1 : 0 ≤ k1_1.toInt ∧ k1_1.toInt ≤ 900 := by rw [ek1_1]; exact fZ_of hI sx_1 rfl
  have mkfr : kp54 H H := kp54_r
  refine gG_call [(0, .ref 24), (1, .int a1)] ⟨rfl, rfl, trivial⟩ ?_
  show gG 2 zB_55 (mzBlk zB_55 0) [(0, .ref 24), (1, .int a1)] [] H 0 0 _
  refine g_aload_n rfl ?_
  refine g_iload_n rfl ?_
  refine g_invvi hI sx_24 rfl rfl rfl rfl (v_54 a1 H hI hJ) (fun v31 H29 r30 => ?_)
  obtain ⟨hIH29, hJH29, bv31, w32, m33⟩ := r30
  have e34 : k1_1 = fZ H29 1 1 := ek1_1.trans w32.symm
  have m35 : kp54 H H29 := kp54_t mkfr m33
  refine g_pop rfl ?_
  refine g_aload_n rfl ?_
  refine g_gfr hIH29 sx_24 rfl ?_
  exact g_aret ⟨rfl, hIH29, hJH29, (e34.symm.trans ek1_1), m35⟩
set_option maxRecDepth 4000 in
set_option maxHeartbeats 4000000 in
/-- X5.worldOfFirst -/
theorem v_56 (a1 : Int32) (H : mzH) (hI : gI SX H) (hJ : JX H) : gCall 56 [.ref 24, .int a1] H (gRa 28 (fun H' => gI SX H' ∧ JX H' ∧ fZ H' 1 1 = fZ H 1 1 ∧ kp54 H H')) := by
  obtain ⟨k1_1, ek1_1⟩ : ∃ z, z = fZ H 1 1 := ⟨_, rfl⟩
  have ik1_1 : k1_1.toInt = (fZ H 1 1).toInt := by rw [← ek1_1]
  have bk1_1 : 0 ≤ k1_1.toInt ∧ k1_1.toInt ≤ 900 := by rw [ek1_1]; exact fZ_of hI sx_1 rfl
  have mkfr : kp54 H H := kp54_r
  refine gG_call [(0, .ref 24), (1, .int a1)] ⟨rfl, rfl, trivial⟩ ?_
  show gG 3 zB_56 (mzBlk zB_56 0) [(0, .ref 24), (1, .int a1)] [] H 0 0 _
  refine g_aload_n rfl ?_
  refine g_gfr hI sx_24 rfl ?_
  refine g_invvv hI sx_28 rfl rfl rfl rfl (v_83 28 zWo_28 H hI hJ) (fun H225 r226 => ?_)
  obtain ⟨hIH225, hJH225, w227, m228⟩ := r226
  have e229 : k1_1 = fZ H225 1 1 := ek1_1.trans w227.symm
  have m230 : kp54 H H225 := kp54_t mkfr m228
  refine g_iconst (by decide) (fun v231 kv231 => ?_)
  refine g_istore_n (l' := [(0, .ref 24), (1, .int a1), (2, .int v231)]) rfl rfl ?_
  refine g_nop ?_
  have L236 : ∀ (N : Nat) (v232 : Int32) (H233 : mzH), gI SX H233 → JX H233 → k1_1 = fZ H233 1 1 → kp54 H H233 → (0 ≤ v232.toInt ∧ v232.toInt ≤ 60) → (60 - v232.toInt).toNat < N → gG 3 zB_56 (mzBlk zB_56 1) [(0, .ref 24), (1, .int a1), (2, .int v232)] [] H233 0 0 (gRa 28 (fun H' => gI SX H' ∧ JX H' ∧ fZ H' 1 1 = fZ H 1 1 ∧ kp54 H H')) := by
    intro N
    induction N with
    | zero => intro v232 H233 hIH233 hJH233 e234 m235 bv232 hmL236; exact absurd hmL236 (Nat.not_lt_zero _)
    | succ N ihL236 =>
      intro v232 H233 hIH233 hJH233 e234 m235 bv232 hmL236
      refine g_iload_n rfl ?_
      refine g_aload_n rfl ?_
      refine g_gfr hIH233 sx_24 rfl ?_
      refine g_gfi hIH233 sx_25 rfl (fun v237 ev237 lv237 uv237 => ?_)
      refine g_if2_ge (fun c238 => ?_) (fun c238 => ?_)
      · refine g_aload_n rfl ?_
        refine g_gfr hIH233 sx_24 rfl ?_
        exact g_aret ⟨rfl, hIH233, hJH233, (e234.symm.trans ek1_1), m235⟩
      · refine g_aload_n rfl ?_
        refine g_gfr hIH233 sx_24 rfl ?_
        refine g_gfr hIH233 sx_25 rfl ?_
        refine g_iload_n rfl ?_
        refine g_iaload hIH233 sx_27 rfl (by omega) (fun v239 ev239 lv239 uv239 => ?_)
        refine g_iload_n rfl ?_
        refine g_if2_ge (fun c240 => ?_) (fun c240 => ?_)
        · refine g_iinc (l' := (fun v241 => [(0, .ref 24), (1, .int a1), (2, .int v241)])) rfl rfl (by decide) (by omega) (fun _ => rfl) (fun v241 ev241 => ?_)
          refine g_goto ?_
          exact ihL236 v241 H233 hIH233 hJH233 e234 m235 (by omega) (by omega)
        · refine g_aload_n rfl ?_
          refine g_iload_n rfl ?_
          refine g_invvi hIH233 sx_24 rfl rfl rfl rfl (v_53 v232 (by omega) H233 hIH233 hJH233) (fun v244 H242 r243 => ?_)
          obtain ⟨hIH242, hJH242, w245, m246⟩ := r243
          have e247 : k1_1 = fZ H242 1 1 := e234.trans w245.symm
          have m248 : kp54 H H242 := kp54_t m235 m246
          refine g_pop rfl ?_
          refine g_nop ?_
          refine g_iinc (l' := (fun v249 => [(0, .ref 24), (1, .int a1), (2, .int v249)])) rfl rfl (by decide) (by omega) (fun _ => rfl) (fun v249 ev249 => ?_)
          refine g_goto ?_
          exact ihL236 v249 H242 hIH242 hJH242 e247 m248 (by omega) (by omega)
  exact L236 _ v231 H225 hIH225 hJH225 e229 m230 (by omega) (Nat.lt_succ_self _)
set_option maxRecDepth 4000 in
set_option maxHeartbeats 4000000 in
/-- X5.thingsChangedBy -/
theorem v_57 (a1 : Int32) (ha1 : 0 ≤ a1.toInt ∧ a1.toInt ≤ 59) (H : mzH) (hI : gI SX H) (hJ : JX H) : gCall 57 [.ref 24, .int a1] H (gRi (fun v H' => gI SX H' ∧ JX H' ∧ fZ H' 1 1 = fZ H 1 1 ∧ kp54 H H')) := by
  obtain ⟨k1_1, ek1_1⟩ : ∃ z, z = fZ H 1 1 := ⟨_, rfl⟩
  have ik1_1 : k1_1.toInt = (fZ H 1 1).toInt := by rw [← ek1_1]
  have bk1_1 : 0 ≤ k1_1.toInt ∧ k1_1.toInt ≤ 900 := by rw [ek1_1]; exact fZ_of hI sx_1 rfl
  have mkfr : kp54 H H := kp54_r
  refine gG_call [(0, .ref 24), (1, .int a1)] ⟨rfl, rfl, trivial⟩ ?_
  show gG 4 zB_57 (mzBlk zB_57 0) [(0, .ref 24), (1, .int a1)] [] H 0 0 _
  refine g_aload_n rfl ?_
  refine g_gfr hI sx_24 rfl ?_
  refine g_aload_n rfl ?_
  refine g_iload_n rfl ?_
  refine g_invva hI sx_24 rfl rfl rfl rfl (v_56 a1 H hI hJ) (fun H629 r630 => ?_)
  obtain ⟨hIH629, hJH629, w631, m632⟩ := r630
  have e633 : k1_1 = fZ H629 1 1 := ek1_1.trans w631.symm
  have m634 : kp54 H H629 := kp54_t mkfr m632
  refine g_invvv hIH629 sx_35 rfl rfl rfl rfl (v_84 35 zWo_35 28 zWo_28 H629 hIH629 hJH629) (fun H635 r636 => ?_)
  obtain ⟨hIH635, hJH635, w637, m638⟩ := r636
  have e639 : k1_1 = fZ H635 1 1 := e633.trans w637.symm
  have m640 : kp54 H H635 := kp54_t m634 m638
  refine g_aload_n rfl ?_
  refine g_iload_n rfl ?_
  refine g_iconst (by decide) (fun v641 kv641 => ?_)
  refine g_iadd (by omega) (fun v642 ev642 => ?_)
  refine g_invva hIH635 sx_24 rfl rfl rfl rfl (v_56 v642 H635 hIH635 hJH635) (fun H643 r644 => ?_)
  obtain ⟨hIH643, hJH643, w645, m646⟩ := r644
  have e647 : k1_1 = fZ H643 1 1 := e639.trans w645.symm
  have m648 : kp54 H H643 := kp54_t m640 m646
  refine g_pop rfl ?_
  refine g_iconst (by decide) (fun v649 kv649 => ?_)
  refine g_istore_n (l' := [(0, .ref 24), (1, .int a1), (2, .int v649)]) rfl rfl ?_
  refine g_iconst (by decide) (fun v650 kv650 => ?_)
  refine g_istore_n (l' := [(0, .ref 24), (1, .int a1), (2, .int v649), (3, .int v650)]) rfl rfl ?_
  refine g_nop ?_
  have L653 : ∀ (N : Nat) (v651 : Int32) (v652 : Int32), (0 ≤ v652.toInt ∧ v652.toInt ≤ 40) → (40 - v652.toInt).toNat < N → gG 4 zB_57 (mzBlk zB_57 1) [(0, .ref 24), (1, .int a1), (2, .int v651), (3, .int v652)] [] H643 0 0 (gRi (fun v H' => gI SX H' ∧ JX H' ∧ fZ H' 1 1 = fZ H 1 1 ∧ kp54 H H')) := by
    intro N
    induction N with
    | zero => intro v651 v652 bv652 hmL653; exact absurd hmL653 (Nat.not_lt_zero _)
    | succ N ihL653 =>
      intro v651 v652 bv652 hmL653
      refine g_iload_n rfl ?_
      refine g_bipush (by decide) (fun v654 kv654 => ?_)
      refine g_if2_ge (fun c655 => ?_) (fun c655 => ?_)
      · refine g_iload_n rfl ?_
        exact g_iret ⟨_, rfl, hIH643, hJH643, (e647.symm.trans ek1_1), m648⟩
      · refine g_iload_n rfl ?_
        refine g_aload_n rfl ?_
        refine g_gfr hIH643 sx_24 rfl ?_
        refine g_iload_n rfl ?_
        refine g_invvi hIH643 sx_35 rfl rfl rfl rfl (s_91 35 zWo_35 v652 (by omega) H643 hIH643 hJH643) (fun v658 H656 r657 => ?_)
        obtain rfl := r657
        refine g_aload_n rfl ?_
        refine g_gfr hIH643 sx_24 rfl ?_
        refine g_iload_n rfl ?_
        refine g_invvi hIH643 sx_28 rfl rfl rfl rfl (s_91 28 zWo_28 v652 (by omega) H643 hIH643 hJH643) (fun v661 H659 r660 => ?_)
        obtain rfl := r660
        refine g_if2_eq (fun c662 => ?_) (fun c662 => ?_)
        · refine g_iconst (by decide) (fun v663 kv663 => ?_)
          refine g_nop ?_
          refine g_iadd (by have := gz_any v651; omega) (fun v664 ev664 => ?_)
          refine g_istore_n (l' := [(0, .ref 24), (1, .int a1), (2, .int v664), (3, .int v652)]) rfl rfl ?_
          refine g_iinc (l' := (fun v665 => [(0, .ref 24), (1, .int a1), (2, .int v664), (3, .int v665)])) rfl rfl (by decide) (by omega) (fun _ => rfl) (fun v665 ev665 => ?_)
          refine g_goto ?_
          exact ihL653 v664 v665 (by omega) (by omega)
        · refine g_iconst (by decide) (fun v666 kv666 => ?_)
          refine g_goto ?_
          refine g_iadd' (fun v667 ov667 => ?_)
          refine g_istore_n (l' := [(0, .ref 24), (1, .int a1), (2, .int v667), (3, .int v652)]) rfl rfl ?_
          refine g_iinc (l' := (fun v668 => [(0, .ref 24), (1, .int a1), (2, .int v667), (3, .int v668)])) rfl rfl (by decide) (by omega) (fun _ => rfl) (fun v668 ev668 => ?_)
          refine g_goto ?_
          exact ihL653 v667 v668 (by omega) (by omega)
  exact L653 _ v649 v650 (by omega) (Nat.lt_succ_self _)
set_option maxRecDepth 4000 in
set_option maxHeartbeats 4000000 in
/-- X5.trailEntry -/
theorem v_59 (a1 : Int32) (ha1 : 0 ≤ a1.toInt ∧ a1.toInt ≤ 39) (a2 : Int32) (a3 : Int32) (ha3 : 0 ≤ a3.toInt ∧ a3.toInt ≤ 1) (H : mzH) (hI : gI SX H) (hJ : JX H) : gCall 59 [.ref 24, .int a1, .int a2, .int a3] H (gRi (fun v H' => gI SX H' ∧ JX H' ∧ fZ H' 1 1 = fZ H 1 1 ∧ kp54 H H')) := by
  obtain ⟨k1_1, ek1_1⟩ : ∃ z, z = fZ H 1 1 := ⟨_, rfl⟩
  have ik1_1 : k1_1.toInt = (fZ H 1 1).toInt := by rw [← ek1_1]
  have bk1_1 : 0 ≤ k1_1.toInt ∧ k1_1.toInt ≤ 900 := by rw [ek1_1]; exact fZ_of hI sx_1 rfl
  have mkfr : kp54 H H := kp54_r
  refine gG_call [(0, .ref 24), (1, .int a1), (2, .int a2), (3, .int a3)] ⟨rfl, rfl, rfl, rfl, trivial⟩ ?_
  show gG 7 zB_59 (mzBlk zB_59 0) [(0, .ref 24), (1, .int a1), (2, .int a2), (3, .int a3)] [] H 0 0 _
  refine g_aload_n rfl ?_
  refine g_gfr hI sx_24 rfl ?_
  refine g_invvv hI sx_28 rfl rfl rfl rfl (v_83 28 zWo_28 H hI hJ) (fun H937 r938 => ?_)
  obtain ⟨hIH937, hJH937, w939, m940⟩ := r938
  have e941 : k1_1 = fZ H937 1 1 := ek1_1.trans w939.symm
  have m942 : kp54 H H937 := kp54_t mkfr m940
  refine g_bipush (by decide) (fun v943 kv943 => ?_)
  refine g_istore (l' := [(0, .ref 24), (1, .int a1), (2, .int a2), (3, .int a3), (4, .int v943)]) rfl rfl ?_
  refine g_iconst (by decide) (fun v944 kv944 => ?_)
  refine g_istore (l' := [(0, .ref 24), (1, .int a1), (2, .int a2), (3, .int a3), (4, .int v943), (5, .int v944)]) rfl rfl ?_
  refine g_iconst (by decide) (fun v945 kv945 => ?_)
  refine g_istore (l' := [(0, .ref 24), (1, .int a1), (2, .int a2), (3, .int a3), (4, .int v943), (5, .int v944), (6, .int v945)]) rfl rfl ?_
  refine g_nop ?_
  have L952 : ∀ (N : Nat) (v946 : Int32) (v947 : Int32) (v948 : Int32) (H949 : mzH), gI SX H949 → JX H949 → k1_1 = fZ H949 1 1 → kp54 H H949 → (0 ≤ v948.toInt ∧ v948.toInt ≤ 60) → (60 - v948.toInt).toNat < N → gG 7 zB_59 (mzBlk zB_59 1) [(0, .ref 24), (1, .int a1), (2, .int a2), (3, .int a3), (4, .int v946), (5, .int v947), (6, .int v948)] [] H949 0 0 (gRi (fun v H' => gI SX H' ∧ JX H' ∧ fZ H' 1 1 = fZ H 1 1 ∧ kp54 H H')) := by
    intro N
    induction N with
    | zero => intro v946 v947 v948 H949 hIH949 hJH949 e950 m951 bv948 hmL952; exact absurd hmL952 (Nat.not_lt_zero _)
    | succ N ihL952 =>
      intro v946 v947 v948 H949 hIH949 hJH949 e950 m951 bv948 hmL952
      refine g_iload rfl ?_
      refine g_aload_n rfl ?_
      refine g_gfr hIH949 sx_24 rfl ?_
      refine g_gfi hIH949 sx_25 rfl (fun v953 ev953 lv953 uv953 => ?_)
      refine g_if2_ge (fun c954 => ?_) (fun c954 => ?_)
      · refine g_bipush (by decide) (fun v955 kv955 => ?_)
        exact g_iret ⟨_, rfl, hIH949, hJH949, (e950.symm.trans ek1_1), m951⟩
      · refine g_aload_n rfl ?_
        refine g_iload rfl ?_
        refine g_invvi hIH949 sx_24 rfl rfl rfl rfl (v_53 v948 (by omega) H949 hIH949 hJH949) (fun v958 H956 r957 => ?_)
        obtain ⟨hIH956, hJH956, w959, m960⟩ := r957
        have e961 : k1_1 = fZ H956 1 1 := e950.trans w959.symm
        have m962 : kp54 H H956 := kp54_t m951 m960
        refine g_pop rfl ?_
        refine g_aload_n rfl ?_
        refine g_gfr hIH956 sx_24 rfl ?_
        refine g_iload_n rfl ?_
        refine g_invvi hIH956 sx_28 rfl rfl rfl rfl (s_91 28 zWo_28 a1 (by omega) H956 hIH956 hJH956) (fun v965 H963 r964 => ?_)
        obtain rfl := r964
        refine g_iload rfl ?_
        refine g_if2_eq (fun c966 => ?_) (fun c966 => ?_)
        · refine g_iinc (l' := (fun v967 => [(0, .ref 24), (1, .int a1), (2, .int a2), (3, .int a3), (4, .int v946), (5, .int v947), (6, .int v967)])) rfl rfl (by decide) (by omega) (fun _ => rfl) (fun v967 ev967 => ?_)
          refine g_goto ?_
          exact ihL952 v946 v947 v967 H956 hIH956 hJH956 e961 m962 (by omega) (by omega)
        · refine g_aload_n rfl ?_
          refine g_gfr hIH956 sx_24 rfl ?_
          refine g_iload_n rfl ?_
          refine g_invvi hIH956 sx_28 rfl rfl rfl rfl (s_91 28 zWo_28 a1 (by omega) H956 hIH956 hJH956) (fun v970 H968 r969 => ?_)
          obtain rfl := r969
          refine g_istore (l' := [(0, .ref 24), (1, .int a1), (2, .int a2), (3, .int a3), (4, .int v970), (5, .int v947), (6, .int v948)]) rfl rfl ?_
          refine g_iload rfl ?_
          refine g_iload_n rfl ?_
          refine g_if2_ne (fun c971 => ?_) (fun c971 => ?_)
          · refine g_iinc' (l' := (fun v972 => [(0, .ref 24), (1, .int a1), (2, .int a2), (3, .int a3), (4, .int v970), (5, .int v972), (6, .int v948)])) rfl rfl (fun _ => rfl) (fun v972 => ?_)
            refine g_nop ?_
            refine g_iinc (l' := (fun v973 => [(0, .ref 24), (1, .int a1), (2, .int a2), (3, .int a3), (4, .int v970), (5, .int v972), (6, .int v973)])) rfl rfl (by decide) (by omega) (fun _ => rfl) (fun v973 ev973 => ?_)
            refine g_goto ?_
            exact ihL952 v970 v972 v973 H956 hIH956 hJH956 e961 m962 (by omega) (by omega)
          · refine g_iload_n rfl ?_
            refine g_if_eq (fun c974 => ?_) (fun c974 => ?_)
            · refine g_aload_n rfl ?_
              refine g_gfr hIH956 sx_24 rfl ?_
              refine g_iload rfl ?_
              refine g_invvi hIH956 sx_25 rfl rfl rfl rfl (s_27 25 zCo_25 v948 (by omega) H956 hIH956 hJH956) (fun v977 H975 r976 => ?_)
              obtain rfl := r976
              refine g_nop ?_
              exact g_iret ⟨_, rfl, hIH956, hJH956, (e961.symm.trans ek1_1), m962⟩
            · refine g_iload rfl ?_
              refine g_goto ?_
              exact g_iret ⟨_, rfl, hIH956, hJH956, (e961.symm.trans ek1_1), m962⟩
  exact L952 _ v943 v944 v945 H937 hIH937 hJH937 e941 m942 (by omega) (Nat.lt_succ_self _)
set_option maxRecDepth 4000 in
set_option maxHeartbeats 4000000 in
/-- X5.hoursAt -/
theorem v_60 (a1 : Int32) (ha1 : 0 ≤ a1.toInt ∧ a1.toInt ≤ 39) (a2 : Int32) (H : mzH) (hI : gI SX H) (hJ : JX H) : gCall 60 [.ref 24, .int a1, .int a2] H (gRi (fun v H' => gI SX H' ∧ JX H' ∧ fZ H' 1 1 = fZ H 1 1 ∧ kp54 H H')) := by
  obtain ⟨k1_1, ek1_1⟩ : ∃ z, z = fZ H 1 1 := ⟨_, rfl⟩
  have ik1_1 : k1_1.toInt = (fZ H 1 1).toInt := by rw [← ek1_1]
  have bk1_1 : 0 ≤ k1_1.toInt ∧ k1_1.toInt ≤ 900 := by rw [ek1_1]; exact fZ_of hI sx_1 rfl
  have mkfr : kp54 H H := kp54_r
  refine gG_call [(0, .ref 24), (1, .int a1), (2, .int a2)] ⟨rfl, rfl, rfl, trivial⟩ ?_
  show gG 7 zB_60 (mzBlk zB_60 0) [(0, .ref 24), (1, .int a1), (2, .int a2)] [] H 0 0 _
  refine g_aload_n rfl ?_
  refine g_gfr hI sx_24 rfl ?_
  refine g_invvv hI sx_28 rfl rfl rfl rfl (v_83 28 zWo_28 H hI hJ) (fun H699 r700 => ?_)
  obtain ⟨hIH699, hJH699, w701, m702⟩ := r700
  have e703 : k1_1 = fZ H699 1 1 := ek1_1.trans w701.symm
  have m704 : kp54 H H699 := kp54_t mkfr m702
  refine g_bipush (by decide) (fun v705 kv705 => ?_)
  refine g_istore_n (l' := [(0, .ref 24), (1, .int a1), (2, .int a2), (3, .int v705)]) rfl rfl ?_
  refine g_iconst (by decide) (fun v706 kv706 => ?_)
  refine g_istore (l' := [(0, .ref 24), (1, .int a1), (2, .int a2), (3, .int v705), (4, .int v706)]) rfl rfl ?_
  refine g_iconst (by decide) (fun v707 kv707 => ?_)
  refine g_istore (l' := [(0, .ref 24), (1, .int a1), (2, .int a2), (3, .int v705), (4, .int v706), (5, .int v707)]) rfl rfl ?_
  refine g_iconst (by decide) (fun v708 kv708 => ?_)
  refine g_istore (l' := [(0, .ref 24), (1, .int a1), (2, .int a2), (3, .int v705), (4, .int v706), (5, .int v707), (6, .int v708)]) rfl rfl ?_
  refine g_nop ?_
  have L716 : ∀ (N : Nat) (v709 : Int32) (v710 : Int32) (v711 : Int32) (v712 : Int32) (H713 : mzH), gI SX H713 → JX H713 → k1_1 = fZ H713 1 1 → kp54 H H713 → (0 ≤ v712.toInt ∧ v712.toInt ≤ 60) → (60 - v712.toInt).toNat < N → gG 7 zB_60 (mzBlk zB_60 1) [(0, .ref 24), (1, .int a1), (2, .int a2), (3, .int v709), (4, .int v710), (5, .int v711), (6, .int v712)] [] H713 0 0 (gRi (fun v H' => gI SX H' ∧ JX H' ∧ fZ H' 1 1 = fZ H 1 1 ∧ kp54 H H')) := by
    intro N
    induction N with
    | zero => intro v709 v710 v711 v712 H713 hIH713 hJH713 e714 m715 bv712 hmL716; exact absurd hmL716 (Nat.not_lt_zero _)
    | succ N ihL716 =>
      intro v709 v710 v711 v712 H713 hIH713 hJH713 e714 m715 bv712 hmL716
      refine g_iload rfl ?_
      refine g_aload_n rfl ?_
      refine g_gfr hIH713 sx_24 rfl ?_
      refine g_gfi hIH713 sx_25 rfl (fun v717 ev717 lv717 uv717 => ?_)
      refine g_if2_ge (fun c718 => ?_) (fun c718 => ?_)
      · refine g_iload_n rfl ?_
        refine g_iload_n rfl ?_
        refine g_if2_ne (fun c719 => ?_) (fun c719 => ?_)
        · refine g_iload rfl ?_
          refine g_nop ?_
          exact g_iret ⟨_, rfl, hIH713, hJH713, (e714.symm.trans ek1_1), m715⟩
        · refine g_iload rfl ?_
          refine g_aload_n rfl ?_
          refine g_gfr hIH713 sx_24 rfl ?_
          refine g_invvi hIH713 sx_3 rfl rfl rfl rfl (s_22 3 zBo_3 H713 hIH713 hJH713) (fun v722 H720 r721 => ?_)
          obtain rfl := r721
          refine g_iadd' (fun v723 ov723 => ?_)
          refine g_iload rfl ?_
          refine g_isub' (fun v724 ov724 => ?_)
          refine g_goto ?_
          exact g_iret ⟨_, rfl, hIH713, hJH713, (e714.symm.trans ek1_1), m715⟩
      · refine g_aload_n rfl ?_
        refine g_iload rfl ?_
        refine g_invvi hIH713 sx_24 rfl rfl rfl rfl (v_53 v712 (by omega) H713 hIH713 hJH713) (fun v727 H725 r726 => ?_)
        obtain ⟨hIH725, hJH725, w728, m729⟩ := r726
        have e730 : k1_1 = fZ H725 1 1 := e714.trans w728.symm
        have m731 : kp54 H H725 := kp54_t m715 m729
        refine g_pop rfl ?_
        refine g_aload_n rfl ?_
        refine g_gfr hIH725 sx_24 rfl ?_
        refine g_iload_n rfl ?_
        refine g_invvi hIH725 sx_28 rfl rfl rfl rfl (s_91 28 zWo_28 a1 (by omega) H725 hIH725 hJH725) (fun v734 H732 r733 => ?_)
        obtain rfl := r733
        refine g_iload_n rfl ?_
        refine g_if2_eq (fun c735 => ?_) (fun c735 => ?_)
        · refine g_iinc (l' := (fun v736 => [(0, .ref 24), (1, .int a1), (2, .int a2), (3, .int v709), (4, .int v710), (5, .int v711), (6, .int v736)])) rfl rfl (by decide) (by omega) (fun _ => rfl) (fun v736 ev736 => ?_)
          refine g_goto ?_
          exact ihL716 v709 v710 v711 v736 H725 hIH725 hJH725 e730 m731 (by omega) (by omega)
        · refine g_iload rfl ?_
          refine g_iload_n rfl ?_
          refine g_iload_n rfl ?_
          refine g_if2_ne (fun c737 => ?_) (fun c737 => ?_)
          · refine g_iconst (by decide) (fun v738 kv738 => ?_)
            refine g_nop ?_
            refine g_iadd (by have := gz_any v711; omega) (fun v739 ev739 => ?_)
            refine g_istore (l' := [(0, .ref 24), (1, .int a1), (2, .int a2), (3, .int v709), (4, .int v710), (5, .int v739), (6, .int v712)]) rfl rfl ?_
            refine g_aload_n rfl ?_
            refine g_gfr hIH725 sx_24 rfl ?_
            refine g_iload_n rfl ?_
            refine g_invvi hIH725 sx_28 rfl rfl rfl rfl (s_91 28 zWo_28 a1 (by omega) H725 hIH725 hJH725) (fun v742 H740 r741 => ?_)
            obtain rfl := r741
            refine g_istore_n (l' := [(0, .ref 24), (1, .int a1), (2, .int a2), (3, .int v742), (4, .int v710), (5, .int v739), (6, .int v712)]) rfl rfl ?_
            refine g_aload_n rfl ?_
            refine g_gfr hIH725 sx_24 rfl ?_
            refine g_iload rfl ?_
            refine g_invvi hIH725 sx_25 rfl rfl rfl rfl (s_27 25 zCo_25 v712 (by omega) H725 hIH725 hJH725) (fun v745 H743 r744 => ?_)
            obtain rfl := r744
            refine g_istore (l' := [(0, .ref 24), (1, .int a1), (2, .int a2), (3, .int v742), (4, .int v745), (5, .int v739), (6, .int v712)]) rfl rfl ?_
            refine g_nop ?_
            refine g_iinc (l' := (fun v746 => [(0, .ref 24), (1, .int a1), (2, .int a2), (3, .int v742), (4, .int v745), (5, .int v739), (6, .int v746)])) rfl rfl (by decide) (by omega) (fun _ => rfl) (fun v746 ev746 => ?_)
            refine g_goto ?_
            exact ihL716 v742 v745 v739 v746 H725 hIH725 hJH725 e730 m731 (by omega) (by omega)
          · refine g_aload_n rfl ?_
            refine g_gfr hIH725 sx_24 rfl ?_
            refine g_iload rfl ?_
            refine g_invvi hIH725 sx_25 rfl rfl rfl rfl (s_27 25 zCo_25 v712 (by omega) H725 hIH725 hJH725) (fun v749 H747 r748 => ?_)
            obtain rfl := r748
            refine g_iload rfl ?_
            refine g_isub' (fun v750 ov750 => ?_)
            refine g_goto ?_
            refine g_iadd' (fun v751 ov751 => ?_)
            refine g_istore (l' := [(0, .ref 24), (1, .int a1), (2, .int a2), (3, .int v709), (4, .int v710), (5, .int v751), (6, .int v712)]) rfl rfl ?_
            refine g_aload_n rfl ?_
            refine g_gfr hIH725 sx_24 rfl ?_
            refine g_iload_n rfl ?_
            refine g_invvi hIH725 sx_28 rfl rfl rfl rfl (s_91 28 zWo_28 a1 (by omega) H725 hIH725 hJH725) (fun v754 H752 r753 => ?_)
            obtain rfl := r753
            refine g_istore_n (l' := [(0, .ref 24), (1, .int a1), (2, .int a2), (3, .int v754), (4, .int v710), (5, .int v751), (6, .int v712)]) rfl rfl ?_
            refine g_aload_n rfl ?_
            refine g_gfr hIH725 sx_24 rfl ?_
            refine g_iload rfl ?_
            refine g_invvi hIH725 sx_25 rfl rfl rfl rfl (s_27 25 zCo_25 v712 (by omega) H725 hIH725 hJH725) (fun v757 H755 r756 => ?_)
            obtain rfl := r756
            refine g_istore (l' := [(0, .ref 24), (1, .int a1), (2, .int a2), (3, .int v754), (4, .int v757), (5, .int v751), (6, .int v712)]) rfl rfl ?_
            refine g_nop ?_
            refine g_iinc (l' := (fun v758 => [(0, .ref 24), (1, .int a1), (2, .int a2), (3, .int v754), (4, .int v757), (5, .int v751), (6, .int v758)])) rfl rfl (by decide) (by omega) (fun _ => rfl) (fun v758 ev758 => ?_)
            refine g_goto ?_
            exact ihL716 v754 v757 v751 v758 H725 hIH725 hJH725 e730 m731 (by omega) (by omega)
  exact L716 _ v705 v706 v707 v708 H699 hIH699 hJH699 e703 m704 (by omega) (Nat.lt_succ_self _)
set_option maxRecDepth 4000 in
set_option maxHeartbeats 4000000 in
/-- X5.passages -/
theorem v_61 (a1 : Int32) (a2 : Int32) (H : mzH) (hI : gI SX H) (hJ : JX H) : gCall 61 [.ref 24, .int a1, .int a2] H (gRi (fun v H' => gI SX H' ∧ JX H' ∧ fZ H' 1 1 = fZ H 1 1 ∧ kp54 H H')) := by
  obtain ⟨k1_1, ek1_1⟩ : ∃ z, z = fZ H 1 1 := ⟨_, rfl⟩
  have ik1_1 : k1_1.toInt = (fZ H 1 1).toInt := by rw [← ek1_1]
  have bk1_1 : 0 ≤ k1_1.toInt ∧ k1_1.toInt ≤ 900 := by rw [ek1_1]; exact fZ_of hI sx_1 rfl
  have mkfr : kp54 H H := kp54_r
  refine gG_call [(0, .ref 24), (1, .int a1), (2, .int a2)] ⟨rfl, rfl, rfl, trivial⟩ ?_
  show gG 7 zB_61 (mzBlk zB_61 0) [(0, .ref 24), (1, .int a1), (2, .int a2)] [] H 0 0 _
  refine g_aload_n rfl ?_
  refine g_gfr hI sx_24 rfl ?_
  refine g_invvv hI sx_28 rfl rfl rfl rfl (v_83 28 zWo_28 H hI hJ) (fun H369 r370 => ?_)
  obtain ⟨hIH369, hJH369, w371, m372⟩ := r370
  have e373 : k1_1 = fZ H369 1 1 := ek1_1.trans w371.symm
  have m374 : kp54 H H369 := kp54_t mkfr m372
  refine g_iconst (by decide) (fun v375 kv375 => ?_)
  refine g_istore_n (l' := [(0, .ref 24), (1, .int a1), (2, .int a2), (3, .int v375)]) rfl rfl ?_
  refine g_iconst (by decide) (fun v376 kv376 => ?_)
  refine g_istore (l' := [(0, .ref 24), (1, .int a1), (2, .int a2), (3, .int v375), (4, .int v376)]) rfl rfl ?_
  refine g_nop ?_
  have L382 : ∀ (N : Nat) (v377 : Int32) (v378 : Int32) (H379 : mzH), gI SX H379 → JX H379 → k1_1 = fZ H379 1 1 → kp54 H H379 → (0 ≤ v378.toInt ∧ v378.toInt ≤ 60) → (60 - v378.toInt).toNat < N → gG 7 zB_61 (mzBlk zB_61 1) [(0, .ref 24), (1, .int a1), (2, .int a2), (3, .int v377), (4, .int v378)] [] H379 0 0 (gRi (fun v H' => gI SX H' ∧ JX H' ∧ fZ H' 1 1 = fZ H 1 1 ∧ kp54 H H')) := by
    intro N
    induction N with
    | zero => intro v377 v378 H379 hIH379 hJH379 e380 m381 bv378 hmL382; exact absurd hmL382 (Nat.not_lt_zero _)
    | succ N ihL382 =>
      intro v377 v378 H379 hIH379 hJH379 e380 m381 bv378 hmL382
      refine g_iload rfl ?_
      refine g_aload_n rfl ?_
      refine g_gfr hIH379 sx_24 rfl ?_
      refine g_gfi hIH379 sx_25 rfl (fun v383 ev383 lv383 uv383 => ?_)
      refine g_if2_ge (fun c384 => ?_) (fun c384 => ?_)
      · refine g_iload_n rfl ?_
        exact g_iret ⟨_, rfl, hIH379, hJH379, (e380.symm.trans ek1_1), m381⟩
      · refine g_aload_n rfl ?_
        refine g_gfr hIH379 sx_24 rfl ?_
        refine g_iload_n rfl ?_
        refine g_invvl hIH379 sx_28 rfl rfl rfl rfl (s_105 28 zWo_28 a1 H379 hIH379 hJH379) (fun v387 H385 r386 => ?_)
        obtain rfl := r386
        refine g_lstore (l' := [(0, .ref 24), (1, .int a1), (2, .int a2), (3, .int v377), (4, .int v378), (5, .long v387)]) rfl rfl ?_
        refine g_aload_n rfl ?_
        refine g_iload rfl ?_
        refine g_invvi hIH379 sx_24 rfl rfl rfl rfl (v_53 v378 (by omega) H379 hIH379 hJH379) (fun v390 H388 r389 => ?_)
        obtain ⟨hIH388, hJH388, w391, m392⟩ := r389
        have e393 : k1_1 = fZ H388 1 1 := e380.trans w391.symm
        have m394 : kp54 H H388 := kp54_t m381 m392
        refine g_pop rfl ?_
        refine g_iload_n rfl ?_
        refine g_lload rfl ?_
        refine g_aload_n rfl ?_
        refine g_gfr hIH388 sx_24 rfl ?_
        refine g_iload_n rfl ?_
        refine g_invvl hIH388 sx_28 rfl rfl rfl rfl (s_105 28 zWo_28 a2 H388 hIH388 hJH388) (fun v397 H395 r396 => ?_)
        obtain rfl := r396
        refine g_land (fun v398 _ => ?_)
        refine g_invti rfl rfl rfl (s_253 v398 H388 hIH388 hJH388) (fun v401 H399 r400 => ?_)
        obtain rfl := r400
        refine g_iadd' (fun v402 ov402 => ?_)
        refine g_istore_n (l' := [(0, .ref 24), (1, .int a1), (2, .int a2), (3, .int v402), (4, .int v378), (5, .long v387)]) rfl rfl ?_
        refine g_iinc (l' := (fun v403 => [(0, .ref 24), (1, .int a1), (2, .int a2), (3, .int v402), (4, .int v403), (5, .long v387)])) rfl rfl (by decide) (by omega) (fun _ => rfl) (fun v403 ev403 => ?_)
        refine g_goto ?_
        refine gG_pick [0, 1, 2, 3, 4] (l' := [(0, .ref 24), (1, .int a1), (2, .int a2), (3, .int v402), (4, .int v403)]) rfl ?_
        exact ihL382 v402 v403 H388 hIH388 hJH388 e393 m394 (by omega) (by omega)
  exact L382 _ v375 v376 H369 hIH369 hJH369 e373 m374 (by omega) (Nat.lt_succ_self _)
set_option maxRecDepth 4000 in
set_option maxHeartbeats 4000000 in
/-- X5.hoursOnWays -/
theorem v_62 (a1 : Int32) (ha1 : 0 ≤ a1.toInt ∧ a1.toInt ≤ 39) (H : mzH) (hI : gI SX H) (hJ : JX H) : gCall 62 [.ref 24, .int a1] H (gRi (fun v H' => gI SX H' ∧ JX H' ∧ fZ H' 1 1 = fZ H 1 1 ∧ kp54 H H')) := by
  obtain ⟨k1_1, ek1_1⟩ : ∃ z, z = fZ H 1 1 := ⟨_, rfl⟩
  have ik1_1 : k1_1.toInt = (fZ H 1 1).toInt := by rw [← ek1_1]
  have bk1_1 : 0 ≤ k1_1.toInt ∧ k1_1.toInt ≤ 900 := by rw [ek1_1]; exact fZ_of hI sx_1 rfl
  have mkfr : kp54 H H := kp54_r
  refine gG_call [(0, .ref 24), (1, .int a1)] ⟨rfl, rfl, trivial⟩ ?_
  show gG 6 zB_62 (mzBlk zB_62 0) [(0, .ref 24), (1, .int a1)] [] H 0 0 _
  refine g_aload_n rfl ?_
  refine g_gfr hI sx_24 rfl ?_
  refine g_invvv hI sx_28 rfl rfl rfl rfl (v_83 28 zWo_28 H hI hJ) (fun H443 r444 => ?_)
  obtain ⟨hIH443, hJH443, w445, m446⟩ := r444
  have e447 : k1_1 = fZ H443 1 1 := ek1_1.trans w445.symm
  have m448 : kp54 H H443 := kp54_t mkfr m446
  refine g_bipush (by decide) (fun v449 kv449 => ?_)
  refine g_istore_n (l' := [(0, .ref 24), (1, .int a1), (2, .int v449)]) rfl rfl ?_
  refine g_iconst (by decide) (fun v450 kv450 => ?_)
  refine g_istore_n (l' := [(0, .ref 24), (1, .int a1), (2, .int v449), (3, .int v450)]) rfl rfl ?_
  refine g_iconst (by decide) (fun v451 kv451 => ?_)
  refine g_istore (l' := [(0, .ref 24), (1, .int a1), (2, .int v449), (3, .int v450), (4, .int v451)]) rfl rfl ?_
  refine g_nop ?_
  have L458 : ∀ (N : Nat) (v452 : Int32) (v453 : Int32) (v454 : Int32) (H455 : mzH), gI SX H455 → JX H455 → k1_1 = fZ H455 1 1 → kp54 H H455 → (-2 ≤ v452.toInt ∧ v452.toInt ≤ 2147483647) → (0 ≤ v454.toInt ∧ v454.toInt ≤ 60) → (60 - v454.toInt).toNat < N → gG 6 zB_62 (mzBlk zB_62 1) [(0, .ref 24), (1, .int a1), (2, .int v452), (3, .int v453), (4, .int v454)] [] H455 0 0 (gRi (fun v H' => gI SX H' ∧ JX H' ∧ fZ H' 1 1 = fZ H 1 1 ∧ kp54 H H')) := by
    intro N
    induction N with
    | zero => intro v452 v453 v454 H455 hIH455 hJH455 e456 m457 bv452 bv454 hmL458; exact absurd hmL458 (Nat.not_lt_zero _)
    | succ N ihL458 =>
      intro v452 v453 v454 H455 hIH455 hJH455 e456 m457 bv452 bv454 hmL458
      refine g_iload rfl ?_
      refine g_aload_n rfl ?_
      refine g_gfr hIH455 sx_24 rfl ?_
      refine g_gfi hIH455 sx_25 rfl (fun v459 ev459 lv459 uv459 => ?_)
      refine g_if2_ge (fun c460 => ?_) (fun c460 => ?_)
      · refine g_aload_n rfl ?_
        refine g_gfr hIH455 sx_24 rfl ?_
        refine g_iload_n rfl ?_
        refine g_invvi hIH455 sx_28 rfl rfl rfl rfl (s_88 28 zWo_28 a1 (by omega) H455 hIH455 hJH455) (fun v463 H461 r462 => ?_)
        obtain ⟨rfl, bv463⟩ := r462
        refine g_if_eq (fun c464 => ?_) (fun c464 => ?_)
        · refine g_bipush (by decide) (fun v465 kv465 => ?_)
          refine g_nop ?_
          exact g_iret ⟨_, rfl, hIH455, hJH455, (e456.symm.trans ek1_1), m457⟩
        · refine g_iload_n rfl ?_
          refine g_goto ?_
          exact g_iret ⟨_, rfl, hIH455, hJH455, (e456.symm.trans ek1_1), m457⟩
      · refine g_aload_n rfl ?_
        refine g_iload rfl ?_
        refine g_invvi hIH455 sx_24 rfl rfl rfl rfl (v_53 v454 (by omega) H455 hIH455 hJH455) (fun v468 H466 r467 => ?_)
        obtain ⟨hIH466, hJH466, w469, m470⟩ := r467
        have e471 : k1_1 = fZ H466 1 1 := e456.trans w469.symm
        have m472 : kp54 H H466 := kp54_t m457 m470
        refine g_pop rfl ?_
        refine g_aload_n rfl ?_
        refine g_gfr hIH466 sx_24 rfl ?_
        refine g_iload_n rfl ?_
        refine g_invvi hIH466 sx_28 rfl rfl rfl rfl (s_91 28 zWo_28 a1 (by omega) H466 hIH466 hJH466) (fun v475 H473 r474 => ?_)
        obtain rfl := r474
        refine g_istore (l' := [(0, .ref 24), (1, .int a1), (2, .int v452), (3, .int v453), (4, .int v454), (5, .int v475)]) rfl rfl ?_
        refine g_iload rfl ?_
        refine g_if_lt (fun c476 => ?_) (fun c476 => ?_)
        · refine g_iinc (l' := (fun v477 => [(0, .ref 24), (1, .int a1), (2, .int v452), (3, .int v453), (4, .int v477), (5, .int v475)])) rfl rfl (by decide) (by omega) (fun _ => rfl) (fun v477 ev477 => ?_)
          refine g_goto ?_
          refine gG_pick [0, 1, 2, 3, 4] (l' := [(0, .ref 24), (1, .int a1), (2, .int v452), (3, .int v453), (4, .int v477)]) rfl ?_
          exact ihL458 v452 v453 v477 H466 hIH466 hJH466 e471 m472 (by have := gz_any v452; omega) (by omega) (by omega)
        · refine g_iload_n rfl ?_
          refine g_iconst (by decide) (fun v478 kv478 => ?_)
          refine g_aload_n rfl ?_
          refine g_gfr hIH466 sx_24 rfl ?_
          refine g_iload_n rfl ?_
          refine g_iload rfl ?_
          refine g_invvi hIH466 sx_3 rfl rfl rfl rfl (s_17 3 zBo_3 v452 v475 H466 hIH466 hJH466) (fun v481 H479 r480 => ?_)
          obtain rfl := r480
          refine g_max rfl (fun v482 av482 bv482 dv482 => ?_)
          refine g_iadd' (fun v483 ov483 => ?_)
          refine g_istore_n (l' := [(0, .ref 24), (1, .int a1), (2, .int v452), (3, .int v483), (4, .int v454), (5, .int v475)]) rfl rfl ?_
          refine g_iload rfl ?_
          refine g_istore_n (l' := [(0, .ref 24), (1, .int a1), (2, .int v475), (3, .int v483), (4, .int v454), (5, .int v475)]) rfl rfl ?_
          refine g_nop ?_
          refine g_iinc (l' := (fun v484 => [(0, .ref 24), (1, .int a1), (2, .int v475), (3, .int v483), (4, .int v484), (5, .int v475)])) rfl rfl (by decide) (by omega) (fun _ => rfl) (fun v484 ev484 => ?_)
          refine g_goto ?_
          refine gG_pick [0, 1, 2, 3, 4] (l' := [(0, .ref 24), (1, .int a1), (2, .int v475), (3, .int v483), (4, .int v484)]) rfl ?_
          exact ihL458 v475 v483 v484 H466 hIH466 hJH466 e471 m472 (by have := gz_any v475; omega) (by omega) (by omega)
  exact L458 _ v449 v450 v451 H443 hIH443 hJH443 e447 m448 (by have := gz_any v449; omega) (by omega) (Nat.lt_succ_self _)
set_option maxRecDepth 4000 in
set_option maxHeartbeats 4000000 in
/-- X5.busiest -/
theorem v_63 (a1 : Int32) (a2 : Int32) (ha2 : 0 ≤ a2.toInt ∧ a2.toInt ≤ 1) (H : mzH) (hI : gI SX H) (hJ : JX H) : gCall 63 [.ref 24, .int a1, .int a2] H (gRi (fun v H' => gI SX H' ∧ JX H' ∧ fZ H' 1 1 = fZ H 1 1 ∧ kp54 H H')) := by
  obtain ⟨k1_1, ek1_1⟩ : ∃ z, z = fZ H 1 1 := ⟨_, rfl⟩
  have ik1_1 : k1_1.toInt = (fZ H 1 1).toInt := by rw [← ek1_1]
  have bk1_1 : 0 ≤ k1_1.toInt ∧ k1_1.toInt ≤ 900 := by rw [ek1_1]; exact fZ_of hI sx_1 rfl
  have mkfr : kp54 H H := kp54_r
  refine gG_call [(0, .ref 24), (1, .int a1), (2, .int a2)] ⟨rfl, rfl, rfl, trivial⟩ ?_
  show gG 7 zB_63 (mzBlk zB_63 0) [(0, .ref 24), (1, .int a1), (2, .int a2)] [] H 0 0 _
  refine g_aload_n rfl ?_
  refine g_gfr hI sx_24 rfl ?_
  refine g_invvv hI sx_28 rfl rfl rfl rfl (v_83 28 zWo_28 H hI hJ) (fun H429 r430 => ?_)
  obtain ⟨hIH429, hJH429, w431, m432⟩ := r430
  have e433 : k1_1 = fZ H429 1 1 := ek1_1.trans w431.symm
  have m434 : kp54 H H429 := kp54_t mkfr m432
  refine g_iconst (by decide) (fun v435 kv435 => ?_)
  refine g_istore_n (l' := [(0, .ref 24), (1, .int a1), (2, .int a2), (3, .int v435)]) rfl rfl ?_
  refine g_bipush (by decide) (fun v436 kv436 => ?_)
  refine g_istore (l' := [(0, .ref 24), (1, .int a1), (2, .int a2), (3, .int v435), (4, .int v436)]) rfl rfl ?_
  refine g_iconst (by decide) (fun v437 kv437 => ?_)
  refine g_istore (l' := [(0, .ref 24), (1, .int a1), (2, .int a2), (3, .int v435), (4, .int v436), (5, .int v437)]) rfl rfl ?_
  refine g_nop ?_
  have L444 : ∀ (N : Nat) (v438 : Int32) (v439 : Int32) (v440 : Int32) (H441 : mzH), gI SX H441 → JX H441 → k1_1 = fZ H441 1 1 → kp54 H H441 → (-1 ≤ v438.toInt ∧ v438.toInt ≤ 2147483647) → (0 ≤ v440.toInt ∧ v440.toInt ≤ 60) → (60 - v440.toInt).toNat < N → gG 7 zB_63 (mzBlk zB_63 1) [(0, .ref 24), (1, .int a1), (2, .int a2), (3, .int v438), (4, .int v439), (5, .int v440)] [] H441 0 0 (gRi (fun v H' => gI SX H' ∧ JX H' ∧ fZ H' 1 1 = fZ H 1 1 ∧ kp54 H H')) := by
    intro N
    induction N with
    | zero => intro v438 v439 v440 H441 hIH441 hJH441 e442 m443 bv438 bv440 hmL444; exact absurd hmL444 (Nat.not_lt_zero _)
    | succ N ihL444 =>
      intro v438 v439 v440 H441 hIH441 hJH441 e442 m443 bv438 bv440 hmL444
      refine g_iload rfl ?_
      refine g_aload_n rfl ?_
      refine g_gfr hIH441 sx_24 rfl ?_
      refine g_gfi hIH441 sx_25 rfl (fun v445 ev445 lv445 uv445 => ?_)
      refine g_if2_ge (fun c446 => ?_) (fun c446 => ?_)
      · refine g_iload_n rfl ?_
        refine g_if_eq (fun c447 => ?_) (fun c447 => ?_)
        · refine g_iload rfl ?_
          refine g_nop ?_
          exact g_iret ⟨_, rfl, hIH441, hJH441, (e442.symm.trans ek1_1), m443⟩
        · refine g_iconst (by decide) (fun v448 kv448 => ?_)
          refine g_iload_n rfl ?_
          refine g_max rfl (fun v449 av449 bv449 dv449 => ?_)
          refine g_goto ?_
          exact g_iret ⟨_, rfl, hIH441, hJH441, (e442.symm.trans ek1_1), m443⟩
      · refine g_aload_n rfl ?_
        refine g_iload rfl ?_
        refine g_invvi hIH441 sx_24 rfl rfl rfl rfl (v_53 v440 (by omega) H441 hIH441 hJH441) (fun v452 H450 r451 => ?_)
        obtain ⟨hIH450, hJH450, w453, m454⟩ := r451
        have e455 : k1_1 = fZ H450 1 1 := e442.trans w453.symm
        have m456 : kp54 H H450 := kp54_t m443 m454
        refine g_pop rfl ?_
        refine g_aload_n rfl ?_
        refine g_gfr hIH450 sx_24 rfl ?_
        refine g_iload_n rfl ?_
        refine g_invvl hIH450 sx_28 rfl rfl rfl rfl (s_105 28 zWo_28 a1 H450 hIH450 hJH450) (fun v459 H457 r458 => ?_)
        obtain rfl := r458
        refine g_invti rfl rfl rfl (s_253 v459 H450 hIH450 hJH450) (fun v462 H460 r461 => ?_)
        obtain rfl := r461
        refine g_istore (l' := [(0, .ref 24), (1, .int a1), (2, .int a2), (3, .int v438), (4, .int v439), (5, .int v440), (6, .int v462)]) rfl rfl ?_
        refine g_iload rfl ?_
        refine g_iload_n rfl ?_
        refine g_if2_le (fun c463 => ?_) (fun c463 => ?_)
        · refine g_iinc (l' := (fun v464 => [(0, .ref 24), (1, .int a1), (2, .int a2), (3, .int v438), (4, .int v439), (5, .int v464), (6, .int v462)])) rfl rfl (by decide) (by omega) (fun _ => rfl) (fun v464 ev464 => ?_)
          refine g_goto ?_
          refine gG_pick [0, 1, 2, 3, 4, 5] (l' := [(0, .ref 24), (1, .int a1), (2, .int a2), (3, .int v438), (4, .int v439), (5, .int v464)]) rfl ?_
          exact ihL444 v438 v439 v464 H450 hIH450 hJH450 e455 m456 (by have := gz_any v438; omega) (by omega) (by omega)
        · refine g_iload rfl ?_
          refine g_istore_n (l' := [(0, .ref 24), (1, .int a1), (2, .int a2), (3, .int v462), (4, .int v439), (5, .int v440), (6, .int v462)]) rfl rfl ?_
          refine g_aload_n rfl ?_
          refine g_gfr hIH450 sx_24 rfl ?_
          refine g_iload rfl ?_
          refine g_invvi hIH450 sx_25 rfl rfl rfl rfl (s_27 25 zCo_25 v440 (by omega) H450 hIH450 hJH450) (fun v467 H465 r466 => ?_)
          obtain rfl := r466
          refine g_istore (l' := [(0, .ref 24), (1, .int a1), (2, .int a2), (3, .int v462), (4, .int v467), (5, .int v440), (6, .int v462)]) rfl rfl ?_
          refine g_nop ?_
          refine g_iinc (l' := (fun v468 => [(0, .ref 24), (1, .int a1), (2, .int a2), (3, .int v462), (4, .int v467), (5, .int v468), (6, .int v462)])) rfl rfl (by decide) (by omega) (fun _ => rfl) (fun v468 ev468 => ?_)
          refine g_goto ?_
          refine gG_pick [0, 1, 2, 3, 4, 5] (l' := [(0, .ref 24), (1, .int a1), (2, .int a2), (3, .int v462), (4, .int v467), (5, .int v468)]) rfl ?_
          exact ihL444 v462 v467 v468 H450 hIH450 hJH450 e455 m456 (by have := gz_any v462; omega) (by omega) (by omega)
  exact L444 _ v435 v436 v437 H429 hIH429 hJH429 e433 m434 (by have := gz_any v435; omega) (by omega) (Nat.lt_succ_self _)
set_option maxRecDepth 4000 in
set_option maxHeartbeats 4000000 in
/-- X5.allMet -/
theorem v_64 (a1 : Int32) (ha1 : 0 ≤ a1.toInt ∧ a1.toInt ≤ 39) (a2 : Int32) (H : mzH) (hI : gI SX H) (hJ : JX H) : gCall 64 [.ref 24, .int a1, .int a2] H (gRl (fun _ H' => gI SX H' ∧ JX H' ∧ fZ H' 1 1 = fZ H 1 1 ∧ kp54 H H')) := by
  obtain ⟨k1_1, ek1_1⟩ : ∃ z, z = fZ H 1 1 := ⟨_, rfl⟩
  have ik1_1 : k1_1.toInt = (fZ H 1 1).toInt := by rw [← ek1_1]
  have bk1_1 : 0 ≤ k1_1.toInt ∧ k1_1.toInt ≤ 900 := by rw [ek1_1]; exact fZ_of hI sx_1 rfl
  have mkfr : kp54 H H := kp54_r
  refine gG_call [(0, .ref 24), (1, .int a1), (2, .int a2)] ⟨rfl, rfl, rfl, trivial⟩ ?_
  show gG 7 zB_64 (mzBlk zB_64 0) [(0, .ref 24), (1, .int a1), (2, .int a2)] [] H 0 0 _
  refine g_aload_n rfl ?_
  refine g_iload_n rfl ?_
  refine g_invvi hI sx_24 rfl rfl rfl rfl (v_54 a2 H hI hJ) (fun v163 H161 r162 => ?_)
  obtain ⟨hIH161, hJH161, bv163, w164, m165⟩ := r162
  have e166 : k1_1 = fZ H161 1 1 := ek1_1.trans w164.symm
  have m167 : kp54 H H161 := kp54_t mkfr m165
  refine g_istore_n (l' := [(0, .ref 24), (1, .int a1), (2, .int a2), (3, .int v163)]) rfl rfl ?_
  refine g_aload_n rfl ?_
  refine g_gfr hIH161 sx_24 rfl ?_
  refine g_iload_n rfl ?_
  refine g_invvi hIH161 sx_28 rfl rfl rfl rfl (s_88 28 zWo_28 a1 (by omega) H161 hIH161 hJH161) (fun v170 H168 r169 => ?_)
  obtain ⟨rfl, bv170⟩ := r169
  refine g_if_eq (fun c171 => ?_) (fun c171 => ?_)
  · refine g_lconst (fun v172 _ => ?_)
    exact g_lret ⟨_, rfl, hIH161, hJH161, (e166.symm.trans ek1_1), m167⟩
  · refine g_aload_n rfl ?_
    refine g_gfr hIH161 sx_24 rfl ?_
    refine g_iload_n rfl ?_
    refine g_iconst (by decide) (fun v173 kv173 => ?_)
    refine g_invvi hIH161 sx_28 rfl rfl rfl rfl (s_85 28 zWo_28 a1 (by omega) v173 H161 hIH161 hJH161) (fun v176 H174 r175 => ?_)
    obtain ⟨rfl, bv176⟩ := r175
    refine g_if_eq (fun c177 => ?_) (fun c177 => ?_)
    · refine g_aload_n rfl ?_
      refine g_gfr hIH161 sx_24 rfl ?_
      refine g_lconst (fun v178 _ => ?_)
      refine g_iload_n rfl ?_
      refine g_lshl (fun v179 _ => ?_)
      refine g_invvl hIH161 sx_28 rfl rfl rfl rfl (s_107 28 zWo_28 v179 H161 hIH161 hJH161) (fun v182 H180 r181 => ?_)
      obtain rfl := r181
      refine g_lstore (l' := [(0, .ref 24), (1, .int a1), (2, .int a2), (3, .int v163), (4, .long v182)]) rfl rfl ?_
      refine g_iload_n rfl ?_
      refine g_istore (l' := [(0, .ref 24), (1, .int a1), (2, .int a2), (3, .int v163), (4, .long v182), (6, .int v163)]) rfl rfl ?_
      refine g_nop ?_
      have L188 : ∀ (N : Nat) (v183 : Int64) (v184 : Int32) (H185 : mzH), gI SX H185 → JX H185 → k1_1 = fZ H185 1 1 → kp54 H H185 → (0 ≤ v184.toInt ∧ v184.toInt ≤ 60) → (60 - v184.toInt).toNat < N → gG 7 zB_64 (mzBlk zB_64 3) [(0, .ref 24), (1, .int a1), (2, .int a2), (3, .int v163), (4, .long v183), (6, .int v184)] [] H185 0 0 (gRl (fun _ H' => gI SX H' ∧ JX H' ∧ fZ H' 1 1 = fZ H 1 1 ∧ kp54 H H')) := by
        intro N
        induction N with
        | zero => intro v183 v184 H185 hIH185 hJH185 e186 m187 bv184 hmL188; exact absurd hmL188 (Nat.not_lt_zero _)
        | succ N ihL188 =>
          intro v183 v184 H185 hIH185 hJH185 e186 m187 bv184 hmL188
          refine g_iload rfl ?_
          refine g_aload_n rfl ?_
          refine g_gfr hIH185 sx_24 rfl ?_
          refine g_gfi hIH185 sx_25 rfl (fun v189 ev189 lv189 uv189 => ?_)
          refine g_if2_ge (fun c190 => ?_) (fun c190 => ?_)
          · refine g_lload rfl ?_
            exact g_lret ⟨_, rfl, hIH185, hJH185, (e186.symm.trans ek1_1), m187⟩
          · refine g_aload_n rfl ?_
            refine g_iload rfl ?_
            refine g_invvi hIH185 sx_24 rfl rfl rfl rfl (v_53 v184 (by omega) H185 hIH185 hJH185) (fun v193 H191 r192 => ?_)
            obtain ⟨hIH191, hJH191, w194, m195⟩ := r192
            have e196 : k1_1 = fZ H191 1 1 := e186.trans w194.symm
            have m197 : kp54 H H191 := kp54_t m187 m195
            refine g_pop rfl ?_
            refine g_aload_n rfl ?_
            refine g_gfr hIH191 sx_24 rfl ?_
            refine g_lload rfl ?_
            refine g_invvl hIH191 sx_28 rfl rfl rfl rfl (s_107 28 zWo_28 v183 H191 hIH191 hJH191) (fun v200 H198 r199 => ?_)
            obtain rfl := r199
            refine g_lstore (l' := [(0, .ref 24), (1, .int a1), (2, .int a2), (3, .int v163), (4, .long v200), (6, .int v184)]) rfl rfl ?_
            refine g_iinc (l' := (fun v201 => [(0, .ref 24), (1, .int a1), (2, .int a2), (3, .int v163), (4, .long v200), (6, .int v201)])) rfl rfl (by decide) (by omega) (fun _ => rfl) (fun v201 ev201 => ?_)
            refine g_goto ?_
            exact ihL188 v200 v201 H191 hIH191 hJH191 e196 m197 (by omega) (by omega)
      exact L188 _ v182 v163 H161 hIH161 hJH161 e166 m167 (by omega) (Nat.lt_succ_self _)
    · refine g_nop ?_
      refine g_lconst (fun v202 _ => ?_)
      exact g_lret ⟨_, rfl, hIH161, hJH161, (e166.symm.trans ek1_1), m167⟩
set_option maxRecDepth 4000 in
set_option maxHeartbeats 4000000 in
/-- X5.allHeld -/
theorem v_65 (a1 : Int32) (a2 : Int32) (a3 : Int32) (H : mzH) (hI : gI SX H) (hJ : JX H) : gCall 65 [.ref 24, .int a1, .int a2, .int a3] H (gRl (fun _ H' => gI SX H' ∧ JX H' ∧ fZ H' 1 1 = fZ H 1 1 ∧ kp54 H H')) := by
  obtain ⟨k1_1, ek1_1⟩ : ∃ z, z = fZ H 1 1 := ⟨_, rfl⟩
  have ik1_1 : k1_1.toInt = (fZ H 1 1).toInt := by rw [← ek1_1]
  have bk1_1 : 0 ≤ k1_1.toInt ∧ k1_1.toInt ≤ 900 := by rw [ek1_1]; exact fZ_of hI sx_1 rfl
  have mkfr : kp54 H H := kp54_r
  refine gG_call [(0, .ref 24), (1, .int a1), (2, .int a2), (3, .int a3)] ⟨rfl, rfl, rfl, rfl, trivial⟩ ?_
  show gG 8 zB_65 (mzBlk zB_65 0) [(0, .ref 24), (1, .int a1), (2, .int a2), (3, .int a3)] [] H 0 0 _
  refine g_aload_n rfl ?_
  refine g_iload_n rfl ?_
  refine g_invvi hI sx_24 rfl rfl rfl rfl (v_54 a2 H hI hJ) (fun v135 H133 r134 => ?_)
  obtain ⟨hIH133, hJH133, bv135, w136, m137⟩ := r134
  have e138 : k1_1 = fZ H133 1 1 := ek1_1.trans w136.symm
  have m139 : kp54 H H133 := kp54_t mkfr m137
  refine g_istore (l' := [(0, .ref 24), (1, .int a1), (2, .int a2), (3, .int a3), (4, .int v135)]) rfl rfl ?_
  refine g_aload_n rfl ?_
  refine g_gfr hIH133 sx_24 rfl ?_
  refine g_iload_n rfl ?_
  refine g_invvl hIH133 sx_28 rfl rfl rfl rfl (s_104 28 zWo_28 a1 H133 hIH133 hJH133) (fun v142 H140 r141 => ?_)
  obtain rfl := r141
  refine g_lstore (l' := [(0, .ref 24), (1, .int a1), (2, .int a2), (3, .int a3), (4, .int v135), (5, .long v142)]) rfl rfl ?_
  refine g_iload rfl ?_
  refine g_istore (l' := [(0, .ref 24), (1, .int a1), (2, .int a2), (3, .int a3), (4, .int v135), (5, .long v142), (7, .int v135)]) rfl rfl ?_
  refine g_nop ?_
  have L148 : ∀ (N : Nat) (v143 : Int64) (v144 : Int32) (H145 : mzH), gI SX H145 → JX H145 → k1_1 = fZ H145 1 1 → kp54 H H145 → (0 ≤ v144.toInt ∧ v144.toInt ≤ 60) → (60 - v144.toInt).toNat < N → gG 8 zB_65 (mzBlk zB_65 1) [(0, .ref 24), (1, .int a1), (2, .int a2), (3, .int a3), (4, .int v135), (5, .long v143), (7, .int v144)] [] H145 0 0 (gRl (fun _ H' => gI SX H' ∧ JX H' ∧ fZ H' 1 1 = fZ H 1 1 ∧ kp54 H H')) := by
    intro N
    induction N with
    | zero => intro v143 v144 H145 hIH145 hJH145 e146 m147 bv144 hmL148; exact absurd hmL148 (Nat.not_lt_zero _)
    | succ N ihL148 =>
      intro v143 v144 H145 hIH145 hJH145 e146 m147 bv144 hmL148
      refine g_iload rfl ?_
      refine g_aload_n rfl ?_
      refine g_gfr hIH145 sx_24 rfl ?_
      refine g_gfi hIH145 sx_25 rfl (fun v149 ev149 lv149 uv149 => ?_)
      refine g_if2_ge (fun c150 => ?_) (fun c150 => ?_)
      · refine g_lload rfl ?_
        exact g_lret ⟨_, rfl, hIH145, hJH145, (e146.symm.trans ek1_1), m147⟩
      · refine g_aload_n rfl ?_
        refine g_gfr hIH145 sx_24 rfl ?_
        refine g_iload rfl ?_
        refine g_invvi hIH145 sx_25 rfl rfl rfl rfl (s_27 25 zCo_25 v144 (by omega) H145 hIH145 hJH145) (fun v153 H151 r152 => ?_)
        obtain rfl := r152
        refine g_iload_n rfl ?_
        refine g_if2_gt (fun c154 => ?_) (fun c154 => ?_)
        · refine g_lload rfl ?_
          exact g_lret ⟨_, rfl, hIH145, hJH145, (e146.symm.trans ek1_1), m147⟩
        · refine g_aload_n rfl ?_
          refine g_iload rfl ?_
          refine g_invvi hIH145 sx_24 rfl rfl rfl rfl (v_53 v144 (by omega) H145 hIH145 hJH145) (fun v157 H155 r156 => ?_)
          obtain ⟨hIH155, hJH155, w158, m159⟩ := r156
          have e160 : k1_1 = fZ H155 1 1 := e146.trans w158.symm
          have m161 : kp54 H H155 := kp54_t m147 m159
          refine g_pop rfl ?_
          refine g_lload rfl ?_
          refine g_aload_n rfl ?_
          refine g_gfr hIH155 sx_24 rfl ?_
          refine g_iload_n rfl ?_
          refine g_invvl hIH155 sx_28 rfl rfl rfl rfl (s_104 28 zWo_28 a1 H155 hIH155 hJH155) (fun v164 H162 r163 => ?_)
          obtain rfl := r163
          refine g_lor (fun v165 _ => ?_)
          refine g_lstore (l' := [(0, .ref 24), (1, .int a1), (2, .int a2), (3, .int a3), (4, .int v135), (5, .long v165), (7, .int v144)]) rfl rfl ?_
          refine g_iinc (l' := (fun v166 => [(0, .ref 24), (1, .int a1), (2, .int a2), (3, .int a3), (4, .int v135), (5, .long v165), (7, .int v166)])) rfl rfl (by decide) (by omega) (fun _ => rfl) (fun v166 ev166 => ?_)
          refine g_goto ?_
          exact ihL148 v165 v166 H155 hIH155 hJH155 e160 m161 (by omega) (by omega)
  exact L148 _ v142 v135 H133 hIH133 hJH133 e138 m139 (by omega) (Nat.lt_succ_self _)
set_option maxRecDepth 4000 in
set_option maxHeartbeats 4000000 in
/-- X5.mostHeld -/
theorem v_66 (a1 : Int32) (ha1 : 0 ≤ a1.toInt ∧ a1.toInt ≤ 39) (H : mzH) (hI : gI SX H) (hJ : JX H) : gCall 66 [.ref 24, .int a1] H (gRi (fun v H' => gI SX H' ∧ JX H' ∧ fZ H' 1 1 = fZ H 1 1 ∧ kp54 H H')) := by
  obtain ⟨k1_1, ek1_1⟩ : ∃ z, z = fZ H 1 1 := ⟨_, rfl⟩
  have ik1_1 : k1_1.toInt = (fZ H 1 1).toInt := by rw [← ek1_1]
  have bk1_1 : 0 ≤ k1_1.toInt ∧ k1_1.toInt ≤ 900 := by rw [ek1_1]; exact fZ_of hI sx_1 rfl
  have mkfr : kp54 H H := kp54_r
  refine gG_call [(0, .ref 24), (1, .int a1)] ⟨rfl, rfl, trivial⟩ ?_
  show gG 4 zB_66 (mzBlk zB_66 0) [(0, .ref 24), (1, .int a1)] [] H 0 0 _
  refine g_aload_n rfl ?_
  refine g_gfr hI sx_24 rfl ?_
  refine g_invvv hI sx_28 rfl rfl rfl rfl (v_83 28 zWo_28 H hI hJ) (fun H369 r370 => ?_)
  obtain ⟨hIH369, hJH369, w371, m372⟩ := r370
  have e373 : k1_1 = fZ H369 1 1 := ek1_1.trans w371.symm
  have m374 : kp54 H H369 := kp54_t mkfr m372
  refine g_iconst (by decide) (fun v375 kv375 => ?_)
  refine g_istore_n (l' := [(0, .ref 24), (1, .int a1), (2, .int v375)]) rfl rfl ?_
  refine g_iconst (by decide) (fun v376 kv376 => ?_)
  refine g_istore_n (l' := [(0, .ref 24), (1, .int a1), (2, .int v375), (3, .int v376)]) rfl rfl ?_
  refine g_nop ?_
  have L382 : ∀ (N : Nat) (v377 : Int32) (v378 : Int32) (H379 : mzH), gI SX H379 → JX H379 → k1_1 = fZ H379 1 1 → kp54 H H379 → (0 ≤ v377.toInt ∧ v377.toInt ≤ 2147483647) → (0 ≤ v378.toInt ∧ v378.toInt ≤ 60) → (60 - v378.toInt).toNat < N → gG 4 zB_66 (mzBlk zB_66 1) [(0, .ref 24), (1, .int a1), (2, .int v377), (3, .int v378)] [] H379 0 0 (gRi (fun v H' => gI SX H' ∧ JX H' ∧ fZ H' 1 1 = fZ H 1 1 ∧ kp54 H H')) := by
    intro N
    induction N with
    | zero => intro v377 v378 H379 hIH379 hJH379 e380 m381 bv377 bv378 hmL382; exact absurd hmL382 (Nat.not_lt_zero _)
    | succ N ihL382 =>
      intro v377 v378 H379 hIH379 hJH379 e380 m381 bv377 bv378 hmL382
      refine g_iload_n rfl ?_
      refine g_aload_n rfl ?_
      refine g_gfr hIH379 sx_24 rfl ?_
      refine g_gfi hIH379 sx_25 rfl (fun v383 ev383 lv383 uv383 => ?_)
      refine g_if2_ge (fun c384 => ?_) (fun c384 => ?_)
      · refine g_aload_n rfl ?_
        refine g_gfr hIH379 sx_24 rfl ?_
        refine g_iload_n rfl ?_
        refine g_invvi hIH379 sx_28 rfl rfl rfl rfl (s_88 28 zWo_28 a1 (by omega) H379 hIH379 hJH379) (fun v387 H385 r386 => ?_)
        obtain ⟨rfl, bv387⟩ := r386
        refine g_if_eq (fun c388 => ?_) (fun c388 => ?_)
        · refine g_bipush (by decide) (fun v389 kv389 => ?_)
          refine g_nop ?_
          exact g_iret ⟨_, rfl, hIH379, hJH379, (e380.symm.trans ek1_1), m381⟩
        · refine g_iload_n rfl ?_
          refine g_goto ?_
          exact g_iret ⟨_, rfl, hIH379, hJH379, (e380.symm.trans ek1_1), m381⟩
      · refine g_aload_n rfl ?_
        refine g_iload_n rfl ?_
        refine g_invvi hIH379 sx_24 rfl rfl rfl rfl (v_53 v378 (by omega) H379 hIH379 hJH379) (fun v392 H390 r391 => ?_)
        obtain ⟨hIH390, hJH390, w393, m394⟩ := r391
        have e395 : k1_1 = fZ H390 1 1 := e380.trans w393.symm
        have m396 : kp54 H H390 := kp54_t m381 m394
        refine g_pop rfl ?_
        refine g_iload_n rfl ?_
        refine g_aload_n rfl ?_
        refine g_gfr hIH390 sx_24 rfl ?_
        refine g_iload_n rfl ?_
        refine g_invvl hIH390 sx_28 rfl rfl rfl rfl (s_104 28 zWo_28 a1 H390 hIH390 hJH390) (fun v399 H397 r398 => ?_)
        obtain rfl := r398
        refine g_invti rfl rfl rfl (s_253 v399 H390 hIH390 hJH390) (fun v402 H400 r401 => ?_)
        obtain rfl := r401
        refine g_max rfl (fun v403 av403 bv403 dv403 => ?_)
        refine g_istore_n (l' := [(0, .ref 24), (1, .int a1), (2, .int v403), (3, .int v378)]) rfl rfl ?_
        refine g_iinc (l' := (fun v404 => [(0, .ref 24), (1, .int a1), (2, .int v403), (3, .int v404)])) rfl rfl (by decide) (by omega) (fun _ => rfl) (fun v404 ev404 => ?_)
        refine g_goto ?_
        exact ihL382 v403 v404 H390 hIH390 hJH390 e395 m396 (by have := gz_any v403; omega) (by omega) (by omega)
  exact L382 _ v375 v376 H369 hIH369 hJH369 e373 m374 (by have := gz_any v375; omega) (by omega) (Nat.lt_succ_self _)
set_option maxRecDepth 4000 in
set_option maxHeartbeats 4000000 in
/-- X5.heldSince -/
theorem v_67 (a1 : Int32) (ha1 : 0 ≤ a1.toInt ∧ a1.toInt ≤ 39) (a2 : Int32) (H : mzH) (hI : gI SX H) (hJ : JX H) : gCall 67 [.ref 24, .int a1, .int a2] H (gRi (fun v H' => gI SX H' ∧ JX H' ∧ fZ H' 1 1 = fZ H 1 1 ∧ kp54 H H')) := by
  obtain ⟨k1_1, ek1_1⟩ : ∃ z, z = fZ H 1 1 := ⟨_, rfl⟩
  have ik1_1 : k1_1.toInt = (fZ H 1 1).toInt := by rw [← ek1_1]
  have bk1_1 : 0 ≤ k1_1.toInt ∧ k1_1.toInt ≤ 900 := by rw [ek1_1]; exact fZ_of hI sx_1 rfl
  have mkfr : kp54 H H := kp54_r
  refine gG_call [(0, .ref 24), (1, .int a1), (2, .int a2)] ⟨rfl, rfl, rfl, trivial⟩ ?_
  show gG 8 zB_67 (mzBlk zB_67 0) [(0, .ref 24), (1, .int a1), (2, .int a2)] [] H 0 0 _
  refine g_aload_n rfl ?_
  refine g_gfr hI sx_24 rfl ?_
  refine g_invvv hI sx_28 rfl rfl rfl rfl (v_83 28 zWo_28 H hI hJ) (fun H761 r762 => ?_)
  obtain ⟨hIH761, hJH761, w763, m764⟩ := r762
  have e765 : k1_1 = fZ H761 1 1 := ek1_1.trans w763.symm
  have m766 : kp54 H H761 := kp54_t mkfr m764
  refine g_bipush (by decide) (fun v767 kv767 => ?_)
  refine g_istore_n (l' := [(0, .ref 24), (1, .int a1), (2, .int a2), (3, .int v767)]) rfl rfl ?_
  refine g_iconst (by decide) (fun v768 kv768 => ?_)
  refine g_istore (l' := [(0, .ref 24), (1, .int a1), (2, .int a2), (3, .int v767), (4, .int v768)]) rfl rfl ?_
  refine g_nop ?_
  have L774 : ∀ (N : Nat) (v769 : Int32) (v770 : Int32) (H771 : mzH), gI SX H771 → JX H771 → k1_1 = fZ H771 1 1 → kp54 H H771 → (0 ≤ v770.toInt ∧ v770.toInt ≤ 60) → (60 - v770.toInt).toNat < N → gG 8 zB_67 (mzBlk zB_67 1) [(0, .ref 24), (1, .int a1), (2, .int a2), (3, .int v769), (4, .int v770)] [] H771 0 0 (gRi (fun v H' => gI SX H' ∧ JX H' ∧ fZ H' 1 1 = fZ H 1 1 ∧ kp54 H H')) := by
    intro N
    induction N with
    | zero => intro v769 v770 H771 hIH771 hJH771 e772 m773 bv770 hmL774; exact absurd hmL774 (Nat.not_lt_zero _)
    | succ N ihL774 =>
      intro v769 v770 H771 hIH771 hJH771 e772 m773 bv770 hmL774
      refine g_iload rfl ?_
      refine g_aload_n rfl ?_
      refine g_gfr hIH771 sx_24 rfl ?_
      refine g_gfi hIH771 sx_25 rfl (fun v775 ev775 lv775 uv775 => ?_)
      refine g_if2_ge (fun c776 => ?_) (fun c776 => ?_)
      · refine g_aload_n rfl ?_
        refine g_gfr hIH771 sx_24 rfl ?_
        refine g_iload_n rfl ?_
        refine g_iconst (by decide) (fun v777 kv777 => ?_)
        refine g_invvi hIH771 sx_28 rfl rfl rfl rfl (s_85 28 zWo_28 a1 (by omega) v777 H771 hIH771 hJH771) (fun v780 H778 r779 => ?_)
        obtain ⟨rfl, bv780⟩ := r779
        refine g_if_eq (fun c781 => ?_) (fun c781 => ?_)
        · refine g_iload_n rfl ?_
          refine g_nop ?_
          exact g_iret ⟨_, rfl, hIH771, hJH771, (e772.symm.trans ek1_1), m773⟩
        · refine g_bipush (by decide) (fun v782 kv782 => ?_)
          refine g_goto ?_
          exact g_iret ⟨_, rfl, hIH771, hJH771, (e772.symm.trans ek1_1), m773⟩
      · refine g_aload_n rfl ?_
        refine g_gfr hIH771 sx_24 rfl ?_
        refine g_iload rfl ?_
        refine g_invvi hIH771 sx_25 rfl rfl rfl rfl (s_27 25 zCo_25 v770 (by omega) H771 hIH771 hJH771) (fun v785 H783 r784 => ?_)
        obtain rfl := r784
        refine g_iload_n rfl ?_
        refine g_if2_gt (fun c786 => ?_) (fun c786 => ?_)
        · refine g_aload_n rfl ?_
          refine g_gfr hIH771 sx_24 rfl ?_
          refine g_iload_n rfl ?_
          refine g_iconst (by decide) (fun v787 kv787 => ?_)
          refine g_invvi hIH771 sx_28 rfl rfl rfl rfl (s_85 28 zWo_28 a1 (by omega) v787 H771 hIH771 hJH771) (fun v790 H788 r789 => ?_)
          obtain ⟨rfl, bv790⟩ := r789
          refine g_if_eq (fun c791 => ?_) (fun c791 => ?_)
          · refine g_iload_n rfl ?_
            refine g_nop ?_
            exact g_iret ⟨_, rfl, hIH771, hJH771, (e772.symm.trans ek1_1), m773⟩
          · refine g_bipush (by decide) (fun v792 kv792 => ?_)
            refine g_goto ?_
            exact g_iret ⟨_, rfl, hIH771, hJH771, (e772.symm.trans ek1_1), m773⟩
        · refine g_aload_n rfl ?_
          refine g_gfr hIH771 sx_24 rfl ?_
          refine g_iload_n rfl ?_
          refine g_invvl hIH771 sx_28 rfl rfl rfl rfl (s_104 28 zWo_28 a1 H771 hIH771 hJH771) (fun v795 H793 r794 => ?_)
          obtain rfl := r794
          refine g_lstore (l' := [(0, .ref 24), (1, .int a1), (2, .int a2), (3, .int v769), (4, .int v770), (5, .long v795)]) rfl rfl ?_
          refine g_aload_n rfl ?_
          refine g_gfr hIH771 sx_24 rfl ?_
          refine g_iload_n rfl ?_
          refine g_invvi hIH771 sx_28 rfl rfl rfl rfl (s_88 28 zWo_28 a1 (by omega) H771 hIH771 hJH771) (fun v798 H796 r797 => ?_)
          obtain ⟨rfl, bv798⟩ := r797
          refine g_istore (l' := [(0, .ref 24), (1, .int a1), (2, .int a2), (3, .int v769), (4, .int v770), (5, .long v795), (7, .int v798)]) rfl rfl ?_
          refine g_aload_n rfl ?_
          refine g_iload rfl ?_
          refine g_invvi hIH771 sx_24 rfl rfl rfl rfl (v_53 v770 (by omega) H771 hIH771 hJH771) (fun v801 H799 r800 => ?_)
          obtain ⟨hIH799, hJH799, w802, m803⟩ := r800
          have e804 : k1_1 = fZ H799 1 1 := e772.trans w802.symm
          have m805 : kp54 H H799 := kp54_t m773 m803
          refine g_pop rfl ?_
          refine g_aload_n rfl ?_
          refine g_gfr hIH799 sx_24 rfl ?_
          refine g_iload_n rfl ?_
          refine g_invvl hIH799 sx_28 rfl rfl rfl rfl (s_104 28 zWo_28 a1 H799 hIH799 hJH799) (fun v808 H806 r807 => ?_)
          obtain rfl := r807
          refine g_lload rfl ?_
          refine g_lcmp (fun v809 _ => ?_)
          refine g_if_ne (fun c810 => ?_) (fun c810 => ?_)
          · refine g_aload_n rfl ?_
            refine g_gfr hIH799 sx_24 rfl ?_
            refine g_iload rfl ?_
            refine g_invvi hIH799 sx_25 rfl rfl rfl rfl (s_27 25 zCo_25 v770 (by omega) H799 hIH799 hJH799) (fun v813 H811 r812 => ?_)
            obtain rfl := r812
            refine g_istore_n (l' := [(0, .ref 24), (1, .int a1), (2, .int a2), (3, .int v813), (4, .int v770), (5, .long v795), (7, .int v798)]) rfl rfl ?_
            refine g_nop ?_
            refine g_iinc (l' := (fun v814 => [(0, .ref 24), (1, .int a1), (2, .int a2), (3, .int v813), (4, .int v814), (5, .long v795), (7, .int v798)])) rfl rfl (by decide) (by omega) (fun _ => rfl) (fun v814 ev814 => ?_)
            refine g_goto ?_
            refine gG_pick [0, 1, 2, 3, 4] (l' := [(0, .ref 24), (1, .int a1), (2, .int a2), (3, .int v813), (4, .int v814)]) rfl ?_
            exact ihL774 v813 v814 H799 hIH799 hJH799 e804 m805 (by omega) (by omega)
          · refine g_aload_n rfl ?_
            refine g_gfr hIH799 sx_24 rfl ?_
            refine g_iload_n rfl ?_
            refine g_invvi hIH799 sx_28 rfl rfl rfl rfl (s_88 28 zWo_28 a1 (by omega) H799 hIH799 hJH799) (fun v817 H815 r816 => ?_)
            obtain ⟨rfl, bv817⟩ := r816
            refine g_iload rfl ?_
            refine g_if2_eq (fun c818 => ?_) (fun c818 => ?_)
            · refine g_iinc (l' := (fun v819 => [(0, .ref 24), (1, .int a1), (2, .int a2), (3, .int v769), (4, .int v819), (5, .long v795), (7, .int v798)])) rfl rfl (by decide) (by omega) (fun _ => rfl) (fun v819 ev819 => ?_)
              refine g_goto ?_
              refine gG_pick [0, 1, 2, 3, 4] (l' := [(0, .ref 24), (1, .int a1), (2, .int a2), (3, .int v769), (4, .int v819)]) rfl ?_
              exact ihL774 v769 v819 H799 hIH799 hJH799 e804 m805 (by omega) (by omega)
            · refine g_nop ?_
              refine g_aload_n rfl ?_
              refine g_gfr hIH799 sx_24 rfl ?_
              refine g_iload rfl ?_
              refine g_invvi hIH799 sx_25 rfl rfl rfl rfl (s_27 25 zCo_25 v770 (by omega) H799 hIH799 hJH799) (fun v822 H820 r821 => ?_)
              obtain rfl := r821
              refine g_istore_n (l' := [(0, .ref 24), (1, .int a1), (2, .int a2), (3, .int v822), (4, .int v770), (5, .long v795), (7, .int v798)]) rfl rfl ?_
              refine g_nop ?_
              refine g_iinc (l' := (fun v823 => [(0, .ref 24), (1, .int a1), (2, .int a2), (3, .int v822), (4, .int v823), (5, .long v795), (7, .int v798)])) rfl rfl (by decide) (by omega) (fun _ => rfl) (fun v823 ev823 => ?_)
              refine g_goto ?_
              refine gG_pick [0, 1, 2, 3, 4] (l' := [(0, .ref 24), (1, .int a1), (2, .int a2), (3, .int v822), (4, .int v823)]) rfl ?_
              exact ihL774 v822 v823 H799 hIH799 hJH799 e804 m805 (by omega) (by omega)
  exact L774 _ v767 v768 H761 hIH761 hJH761 e765 m766 (by omega) (Nat.lt_succ_self _)
set_option maxRecDepth 4000 in
set_option maxHeartbeats 4000000 in
/-- X9.thing -/
theorem v_120 (a1 : Int32) (a2 : Int32) (a3 : Int32) (H : mzH) (hI : gI SX H) (hJ : JX H) : gCall 120 [.ref 0, .int a1, .int a2, .int a3] H (gRi (fun v H' => gI SX H' ∧ JX H' ∧ fZ H' 1 1 = fZ H 1 1 ∧ kp54 H H')) := by
  obtain ⟨k1_1, ek1_1⟩ : ∃ z, z = fZ H 1 1 := ⟨_, rfl⟩
  have ik1_1 : k1_1.toInt = (fZ H 1 1).toInt := by rw [← ek1_1]
  have bk1_1 : 0 ≤ k1_1.toInt ∧ k1_1.toInt ≤ 900 := by rw [ek1_1]; exact fZ_of hI sx_1 rfl
  have mkfr : kp54 H H := kp54_r
  refine gG_call [(0, .ref 0), (1, .int a1), (2, .int a2), (3, .int a3)] ⟨rfl, rfl, rfl, rfl, trivial⟩ ?_
  show gG 4 zB_120 (mzBlk zB_120 0) [(0, .ref 0), (1, .int a1), (2, .int a2), (3, .int a3)] [] H 0 0 _
  refine g_iload_n rfl ?_
  refine g_invti rfl rfl rfl (s_149 a1 H hI hJ) (fun v107 H105 r106 => ?_)
  obtain ⟨rfl, bv107, p108⟩ := r106
  refine g_if_eq (fun c109 => ?_) (fun c109 => ?_)
  · refine g_iconst (by decide) (fun v110 kv110 => ?_)
    exact g_iret ⟨_, rfl, hI, hJ, (ek1_1.symm.trans ek1_1), mkfr⟩
  · refine g_iload_n rfl ?_
    refine g_invti rfl rfl rfl (s_150 a2 H hI hJ) (fun v113 H111 r112 => ?_)
    obtain ⟨rfl, bv113, p114⟩ := r112
    refine g_if_eq (fun c115 => ?_) (fun c115 => ?_)
    · refine g_iconst (by decide) (fun v116 kv116 => ?_)
      exact g_iret ⟨_, rfl, hI, hJ, (ek1_1.symm.trans ek1_1), mkfr⟩
    · refine g_iload_n rfl ?_
      refine g_if_lt (fun c117 => ?_) (fun c117 => ?_)
      · refine g_iconst (by decide) (fun v118 kv118 => ?_)
        exact g_iret ⟨_, rfl, hI, hJ, (ek1_1.symm.trans ek1_1), mkfr⟩
      · refine g_iload_n rfl ?_
        refine g_bipush (by decide) (fun v119 kv119 => ?_)
        refine g_if2_le (fun c120 => ?_) (fun c120 => ?_)
        · refine g_aload_n rfl ?_
          refine g_gfr hI sx_0 rfl ?_
          refine g_iload_n rfl ?_
          refine g_invva hI sx_24 rfl rfl rfl rfl (v_55 a2 H hI hJ) (fun H121 r122 => ?_)
          obtain ⟨hIH121, hJH121, w123, m124⟩ := r122
          have e125 : k1_1 = fZ H121 1 1 := ek1_1.trans w123.symm
          have m126 : kp54 H H121 := kp54_t mkfr m124
          refine g_iload_n rfl ?_
          refine g_iload_n rfl ?_
          refine g_invvi hIH121 sx_28 rfl rfl rfl rfl (s_109 28 zWo_28 a1 (by omega) a3 H121 hIH121 hJH121) (fun v129 H127 r128 => ?_)
          obtain rfl := r128
          exact g_iret ⟨_, rfl, hIH121, hJH121, (e125.symm.trans ek1_1), m126⟩
        · refine g_nop ?_
          refine g_iconst (by decide) (fun v130 kv130 => ?_)
          exact g_iret ⟨_, rfl, hI, hJ, (ek1_1.symm.trans ek1_1), mkfr⟩
set_option maxRecDepth 4000 in
set_option maxHeartbeats 4000000 in
/-- X9.inside -/
theorem v_121 (a1 : Int32) (a2 : Int32) (a3 : Int32) (H : mzH) (hI : gI SX H) (hJ : JX H) : gCall 121 [.ref 0, .int a1, .int a2, .int a3] H (gRi (fun v H' => gI SX H' ∧ JX H' ∧ fZ H' 1 1 = fZ H 1 1 ∧ kp54 H H')) := by
  obtain ⟨k1_1, ek1_1⟩ : ∃ z, z = fZ H 1 1 := ⟨_, rfl⟩
  have ik1_1 : k1_1.toInt = (fZ H 1 1).toInt := by rw [← ek1_1]
  have bk1_1 : 0 ≤ k1_1.toInt ∧ k1_1.toInt ≤ 900 := by rw [ek1_1]; exact fZ_of hI sx_1 rfl
  have mkfr : kp54 H H := kp54_r
  refine gG_call [(0, .ref 0), (1, .int a1), (2, .int a2), (3, .int a3)] ⟨rfl, rfl, rfl, rfl, trivial⟩ ?_
  show gG 4 zB_121 (mzBlk zB_121 0) [(0, .ref 0), (1, .int a1), (2, .int a2), (3, .int a3)] [] H 0 0 _
  refine g_iload_n rfl ?_
  refine g_invti rfl rfl rfl (s_149 a1 H hI hJ) (fun v107 H105 r106 => ?_)
  obtain ⟨rfl, bv107, p108⟩ := r106
  refine g_if_eq (fun c109 => ?_) (fun c109 => ?_)
  · refine g_iconst (by decide) (fun v110 kv110 => ?_)
    exact g_iret ⟨_, rfl, hI, hJ, (ek1_1.symm.trans ek1_1), mkfr⟩
  · refine g_iload_n rfl ?_
    refine g_invti rfl rfl rfl (s_150 a2 H hI hJ) (fun v113 H111 r112 => ?_)
    obtain ⟨rfl, bv113, p114⟩ := r112
    refine g_if_eq (fun c115 => ?_) (fun c115 => ?_)
    · refine g_iconst (by decide) (fun v116 kv116 => ?_)
      exact g_iret ⟨_, rfl, hI, hJ, (ek1_1.symm.trans ek1_1), mkfr⟩
    · refine g_iload_n rfl ?_
      refine g_if_ge (fun c117 => ?_) (fun c117 => ?_)
      · refine g_aload_n rfl ?_
        refine g_gfr hI sx_0 rfl ?_
        refine g_iload_n rfl ?_
        refine g_invva hI sx_24 rfl rfl rfl rfl (v_55 a2 H hI hJ) (fun H118 r119 => ?_)
        obtain ⟨hIH118, hJH118, w120, m121⟩ := r119
        have e122 : k1_1 = fZ H118 1 1 := ek1_1.trans w120.symm
        have m123 : kp54 H H118 := kp54_t mkfr m121
        refine g_iload_n rfl ?_
        refine g_invvl hIH118 sx_28 rfl rfl rfl rfl (s_104 28 zWo_28 a1 H118 hIH118 hJH118) (fun v126 H124 r125 => ?_)
        obtain rfl := r125
        refine g_iload_n rfl ?_
        refine g_invti rfl rfl rfl (s_153 v126 a3 H118 hIH118 hJH118) (fun v129 H127 r128 => ?_)
        obtain rfl := r128
        exact g_iret ⟨_, rfl, hIH118, hJH118, (e122.symm.trans ek1_1), m123⟩
      · refine g_nop ?_
        refine g_iconst (by decide) (fun v130 kv130 => ?_)
        exact g_iret ⟨_, rfl, hI, hJ, (ek1_1.symm.trans ek1_1), mkfr⟩
set_option maxRecDepth 4000 in
set_option maxHeartbeats 4000000 in
/-- X9.there -/
theorem v_122 (a1 : Int32) (a2 : Int32) (a3 : Int32) (H : mzH) (hI : gI SX H) (hJ : JX H) : gCall 122 [.ref 0, .int a1, .int a2, .int a3] H (gRi (fun v H' => gI SX H' ∧ JX H' ∧ fZ H' 1 1 = fZ H 1 1 ∧ kp54 H H')) := by
  obtain ⟨k1_1, ek1_1⟩ : ∃ z, z = fZ H 1 1 := ⟨_, rfl⟩
  have ik1_1 : k1_1.toInt = (fZ H 1 1).toInt := by rw [← ek1_1]
  have bk1_1 : 0 ≤ k1_1.toInt ∧ k1_1.toInt ≤ 900 := by rw [ek1_1]; exact fZ_of hI sx_1 rfl
  have mkfr : kp54 H H := kp54_r
  refine gG_call [(0, .ref 0), (1, .int a1), (2, .int a2), (3, .int a3)] ⟨rfl, rfl, rfl, rfl, trivial⟩ ?_
  show gG 4 zB_122 (mzBlk zB_122 0) [(0, .ref 0), (1, .int a1), (2, .int a2), (3, .int a3)] [] H 0 0 _
  refine g_aload_n rfl ?_
  refine g_iload_n rfl ?_
  refine g_invvi hI sx_0 rfl rfl rfl rfl (s_152 a1 H hI hJ) (fun v103 H101 r102 => ?_)
  obtain ⟨rfl, bv103⟩ := r102
  refine g_if_eq (fun c104 => ?_) (fun c104 => ?_)
  · refine g_iconst (by decide) (fun v105 kv105 => ?_)
    exact g_iret ⟨_, rfl, hI, hJ, (ek1_1.symm.trans ek1_1), mkfr⟩
  · refine g_iload_n rfl ?_
    refine g_invti rfl rfl rfl (s_150 a2 H hI hJ) (fun v108 H106 r107 => ?_)
    obtain ⟨rfl, bv108, p109⟩ := r107
    refine g_if_eq (fun c110 => ?_) (fun c110 => ?_)
    · refine g_iconst (by decide) (fun v111 kv111 => ?_)
      exact g_iret ⟨_, rfl, hI, hJ, (ek1_1.symm.trans ek1_1), mkfr⟩
    · refine g_iload_n rfl ?_
      refine g_if_ge (fun c112 => ?_) (fun c112 => ?_)
      · refine g_aload_n rfl ?_
        refine g_gfr hI sx_0 rfl ?_
        refine g_iload_n rfl ?_
        refine g_invva hI sx_24 rfl rfl rfl rfl (v_55 a2 H hI hJ) (fun H113 r114 => ?_)
        obtain ⟨hIH113, hJH113, w115, m116⟩ := r114
        have e117 : k1_1 = fZ H113 1 1 := ek1_1.trans w115.symm
        have m118 : kp54 H H113 := kp54_t mkfr m116
        refine g_iload_n rfl ?_
        refine g_invvl hIH113 sx_28 rfl rfl rfl rfl (s_105 28 zWo_28 a1 H113 hIH113 hJH113) (fun v121 H119 r120 => ?_)
        obtain rfl := r120
        refine g_iload_n rfl ?_
        refine g_invti rfl rfl rfl (s_153 v121 a3 H113 hIH113 hJH113) (fun v124 H122 r123 => ?_)
        obtain rfl := r123
        exact g_iret ⟨_, rfl, hIH113, hJH113, (e117.symm.trans ek1_1), m118⟩
      · refine g_nop ?_
        refine g_iconst (by decide) (fun v125 kv125 => ?_)
        exact g_iret ⟨_, rfl, hI, hJ, (ek1_1.symm.trans ek1_1), mkfr⟩
set_option maxRecDepth 4000 in
set_option maxHeartbeats 4000000 in
/-- X9.many -/
theorem v_123 (a1 : Int32) (a2 : Int32) (H : mzH) (hI : gI SX H) (hJ : JX H) : gCall 123 [.ref 0, .int a1, .int a2] H (gRi (fun v H' => gI SX H' ∧ JX H' ∧ fZ H' 1 1 = fZ H 1 1 ∧ kp54 H H')) := by
  obtain ⟨k1_1, ek1_1⟩ : ∃ z, z = fZ H 1 1 := ⟨_, rfl⟩
  have ik1_1 : k1_1.toInt = (fZ H 1 1).toInt := by rw [← ek1_1]
  have bk1_1 : 0 ≤ k1_1.toInt ∧ k1_1.toInt ≤ 900 := by rw [ek1_1]; exact fZ_of hI sx_1 rfl
  have mkfr : kp54 H H := kp54_r
  refine gG_call [(0, .ref 0), (1, .int a1), (2, .int a2)] ⟨rfl, rfl, rfl, trivial⟩ ?_
  show gG 3 zB_123 (mzBlk zB_123 0) [(0, .ref 0), (1, .int a1), (2, .int a2)] [] H 0 0 _
  refine g_iload_n rfl ?_
  refine g_invti rfl rfl rfl (s_150 a1 H hI hJ) (fun v83 H81 r82 => ?_)
  obtain ⟨rfl, bv83, p84⟩ := r82
  refine g_if_eq (fun c85 => ?_) (fun c85 => ?_)
  · refine g_iconst (by decide) (fun v86 kv86 => ?_)
    exact g_iret ⟨_, rfl, hI, hJ, (ek1_1.symm.trans ek1_1), mkfr⟩
  · refine g_iload_n rfl ?_
    refine g_if_lt (fun c87 => ?_) (fun c87 => ?_)
    · refine g_iconst (by decide) (fun v88 kv88 => ?_)
      exact g_iret ⟨_, rfl, hI, hJ, (ek1_1.symm.trans ek1_1), mkfr⟩
    · refine g_iload_n rfl ?_
      refine g_iconst (by decide) (fun v89 kv89 => ?_)
      refine g_if2_le (fun c90 => ?_) (fun c90 => ?_)
      · refine g_aload_n rfl ?_
        refine g_gfr hI sx_0 rfl ?_
        refine g_iload_n rfl ?_
        refine g_invva hI sx_24 rfl rfl rfl rfl (v_55 a1 H hI hJ) (fun H91 r92 => ?_)
        obtain ⟨hIH91, hJH91, w93, m94⟩ := r92
        have e95 : k1_1 = fZ H91 1 1 := ek1_1.trans w93.symm
        have m96 : kp54 H H91 := kp54_t mkfr m94
        refine g_iload_n rfl ?_
        refine g_invvi hIH91 sx_28 rfl rfl rfl rfl (s_110 28 zWo_28 a2 H91 hIH91 hJH91) (fun v99 H97 r98 => ?_)
        obtain rfl := r98
        exact g_iret ⟨_, rfl, hIH91, hJH91, (e95.symm.trans ek1_1), m96⟩
      · refine g_nop ?_
        refine g_iconst (by decide) (fun v100 kv100 => ?_)
        exact g_iret ⟨_, rfl, hI, hJ, (ek1_1.symm.trans ek1_1), mkfr⟩
set_option maxRecDepth 4000 in
set_option maxHeartbeats 4000000 in
/-- X9.trail -/
theorem v_124 (a1 : Int32) (a2 : Int32) (a3 : Int32) (H : mzH) (hI : gI SX H) (hJ : JX H) : gCall 124 [.ref 0, .int a1, .int a2, .int a3] H (gRi (fun v H' => gI SX H' ∧ JX H' ∧ fZ H' 1 1 = fZ H 1 1 ∧ kp54 H H')) := by
  obtain ⟨k1_1, ek1_1⟩ : ∃ z, z = fZ H 1 1 := ⟨_, rfl⟩
  have ik1_1 : k1_1.toInt = (fZ H 1 1).toInt := by rw [← ek1_1]
  have bk1_1 : 0 ≤ k1_1.toInt ∧ k1_1.toInt ≤ 900 := by rw [ek1_1]; exact fZ_of hI sx_1 rfl
  have mkfr : kp54 H H := kp54_r
  refine gG_call [(0, .ref 0), (1, .int a1), (2, .int a2), (3, .int a3)] ⟨rfl, rfl, rfl, rfl, trivial⟩ ?_
  show gG 4 zB_124 (mzBlk zB_124 0) [(0, .ref 0), (1, .int a1), (2, .int a2), (3, .int a3)] [] H 0 0 _
  refine g_iload_n rfl ?_
  refine g_invti rfl rfl rfl (s_149 a1 H hI hJ) (fun v123 H121 r122 => ?_)
  obtain ⟨rfl, bv123, p124⟩ := r122
  refine g_if_eq (fun c125 => ?_) (fun c125 => ?_)
  · refine g_bipush (by decide) (fun v126 kv126 => ?_)
    exact g_iret ⟨_, rfl, hI, hJ, (ek1_1.symm.trans ek1_1), mkfr⟩
  · refine g_iload_n rfl ?_
    refine g_if_lt (fun c127 => ?_) (fun c127 => ?_)
    · refine g_bipush (by decide) (fun v128 kv128 => ?_)
      exact g_iret ⟨_, rfl, hI, hJ, (ek1_1.symm.trans ek1_1), mkfr⟩
    · refine g_iload_n rfl ?_
      refine g_if_lt (fun c129 => ?_) (fun c129 => ?_)
      · refine g_bipush (by decide) (fun v130 kv130 => ?_)
        exact g_iret ⟨_, rfl, hI, hJ, (ek1_1.symm.trans ek1_1), mkfr⟩
      · refine g_iload_n rfl ?_
        refine g_iconst (by decide) (fun v131 kv131 => ?_)
        refine g_if2_le (fun c132 => ?_) (fun c132 => ?_)
        · refine g_aload_n rfl ?_
          refine g_gfr hI sx_0 rfl ?_
          refine g_iload_n rfl ?_
          refine g_iload_n rfl ?_
          refine g_iload_n rfl ?_
          refine g_if_ne (fun c133 => ?_) (fun c133 => ?_)
          · refine g_iconst (by decide) (fun v134 kv134 => ?_)
            refine g_nop ?_
            refine g_invvi hI sx_24 rfl rfl rfl rfl (v_59 a1 (by omega) a2 v134 (by omega) H hI hJ) (fun v137 H135 r136 => ?_)
            obtain ⟨hIH135, hJH135, w138, m139⟩ := r136
            have e140 : k1_1 = fZ H135 1 1 := ek1_1.trans w138.symm
            have m141 : kp54 H H135 := kp54_t mkfr m139
            exact g_iret ⟨_, rfl, hIH135, hJH135, (e140.symm.trans ek1_1), m141⟩
          · refine g_iconst (by decide) (fun v142 kv142 => ?_)
            refine g_goto ?_
            refine g_invvi hI sx_24 rfl rfl rfl rfl (v_59 a1 (by omega) a2 v142 (by omega) H hI hJ) (fun v145 H143 r144 => ?_)
            obtain ⟨hIH143, hJH143, w146, m147⟩ := r144
            have e148 : k1_1 = fZ H143 1 1 := ek1_1.trans w146.symm
            have m149 : kp54 H H143 := kp54_t mkfr m147
            exact g_iret ⟨_, rfl, hIH143, hJH143, (e148.symm.trans ek1_1), m149⟩
        · refine g_nop ?_
          refine g_bipush (by decide) (fun v150 kv150 => ?_)
          exact g_iret ⟨_, rfl, hI, hJ, (ek1_1.symm.trans ek1_1), mkfr⟩
set_option maxRecDepth 4000 in
set_option maxHeartbeats 4000000 in
/-- X9.known -/
theorem v_125 (a1 : Int32) (a2 : Int32) (H : mzH) (hI : gI SX H) (hJ : JX H) : gCall 125 [.ref 0, .int a1, .int a2] H (gRi (fun v H' => gI SX H' ∧ JX H' ∧ fZ H' 1 1 = fZ H 1 1 ∧ kp54 H H')) := by
  obtain ⟨k1_1, ek1_1⟩ : ∃ z, z = fZ H 1 1 := ⟨_, rfl⟩
  have ik1_1 : k1_1.toInt = (fZ H 1 1).toInt := by rw [← ek1_1]
  have bk1_1 : 0 ≤ k1_1.toInt ∧ k1_1.toInt ≤ 900 := by rw [ek1_1]; exact fZ_of hI sx_1 rfl
  have mkfr : kp54 H H := kp54_r
  refine gG_call [(0, .ref 0), (1, .int a1), (2, .int a2)] ⟨rfl, rfl, rfl, trivial⟩ ?_
  show gG 3 zB_125 (mzBlk zB_125 0) [(0, .ref 0), (1, .int a1), (2, .int a2)] [] H 0 0 _
  refine g_iload_n rfl ?_
  refine g_if_lt (fun c81 => ?_) (fun c81 => ?_)
  · refine g_iconst (by decide) (fun v82 kv82 => ?_)
    exact g_iret ⟨_, rfl, hI, hJ, (ek1_1.symm.trans ek1_1), mkfr⟩
  · refine g_iload_n rfl ?_
    refine g_aload_n rfl ?_
    refine g_gfr hI sx_0 rfl ?_
    refine g_gfi hI sx_3 rfl (fun v83 ev83 lv83 uv83 => ?_)
    refine g_if2_gt (fun c84 => ?_) (fun c84 => ?_)
    · refine g_iconst (by decide) (fun v85 kv85 => ?_)
      exact g_iret ⟨_, rfl, hI, hJ, (ek1_1.symm.trans ek1_1), mkfr⟩
    · refine g_iload_n rfl ?_
      refine g_invti rfl rfl rfl (s_149 a2 H hI hJ) (fun v88 H86 r87 => ?_)
      obtain ⟨rfl, bv88, p89⟩ := r87
      refine g_if_ne (fun c90 => ?_) (fun c90 => ?_)
      · refine g_aload_n rfl ?_
        refine g_gfr hI sx_0 rfl ?_
        refine g_iload_n rfl ?_
        refine g_invva hI sx_24 rfl rfl rfl rfl (v_56 a1 H hI hJ) (fun H91 r92 => ?_)
        obtain ⟨hIH91, hJH91, w93, m94⟩ := r92
        have e95 : k1_1 = fZ H91 1 1 := ek1_1.trans w93.symm
        have m96 : kp54 H H91 := kp54_t mkfr m94
        refine g_iload_n rfl ?_
        refine g_invvi hIH91 sx_28 rfl rfl rfl rfl (s_91 28 zWo_28 a2 (by omega) H91 hIH91 hJH91) (fun v99 H97 r98 => ?_)
        obtain rfl := r98
        exact g_iret ⟨_, rfl, hIH91, hJH91, (e95.symm.trans ek1_1), m96⟩
      · refine g_nop ?_
        refine g_iconst (by decide) (fun v100 kv100 => ?_)
        exact g_iret ⟨_, rfl, hI, hJ, (ek1_1.symm.trans ek1_1), mkfr⟩
set_option maxRecDepth 4000 in
set_option maxHeartbeats 4000000 in
/-- X9.changed -/
theorem v_126 (a1 : Int32) (H : mzH) (hI : gI SX H) (hJ : JX H) : gCall 126 [.ref 0, .int a1] H (gRi (fun v H' => gI SX H' ∧ JX H' ∧ fZ H' 1 1 = fZ H 1 1 ∧ kp54 H H')) := by
  obtain ⟨k1_1, ek1_1⟩ : ∃ z, z = fZ H 1 1 := ⟨_, rfl⟩
  have ik1_1 : k1_1.toInt = (fZ H 1 1).toInt := by rw [← ek1_1]
  have bk1_1 : 0 ≤ k1_1.toInt ∧ k1_1.toInt ≤ 900 := by rw [ek1_1]; exact fZ_of hI sx_1 rfl
  have mkfr : kp54 H H := kp54_r
  refine gG_call [(0, .ref 0), (1, .int a1)] ⟨rfl, rfl, trivial⟩ ?_
  show gG 2 zB_126 (mzBlk zB_126 0) [(0, .ref 0), (1, .int a1)] [] H 0 0 _
  refine g_aload_n rfl ?_
  refine g_gfr hI sx_0 rfl ?_
  refine g_iload_n rfl ?_
  refine g_invvi hI sx_3 rfl rfl rfl rfl (s_12 3 zBo_3 a1 H hI hJ) (fun v55 H53 r54 => ?_)
  obtain ⟨rfl, bv55, p56⟩ := r54
  refine g_if_ne (fun c57 => ?_) (fun c57 => ?_)
  · refine g_aload_n rfl ?_
    refine g_gfr hI sx_0 rfl ?_
    refine g_iload_n rfl ?_
    refine g_invvi hI sx_24 rfl rfl rfl rfl (v_57 a1 (by omega) H hI hJ) (fun v60 H58 r59 => ?_)
    obtain ⟨hIH58, hJH58, w61, m62⟩ := r59
    have e63 : k1_1 = fZ H58 1 1 := ek1_1.trans w61.symm
    have m64 : kp54 H H58 := kp54_t mkfr m62
    exact g_iret ⟨_, rfl, hIH58, hJH58, (e63.symm.trans ek1_1), m64⟩
  · refine g_iconst (by decide) (fun v65 kv65 => ?_)
    exact g_iret ⟨_, rfl, hI, hJ, (ek1_1.symm.trans ek1_1), mkfr⟩
set_option maxRecDepth 4000 in
set_option maxHeartbeats 4000000 in
/-- X9.without -/
theorem v_127 (a1 : Int32) (a2 : Int32) (H : mzH) (hI : gI SX H) (hJ : JX H) : gCall 127 [.ref 0, .int a1, .int a2] H (gRi (fun v H' => gI SX H' ∧ JX H' ∧ fZ H' 1 1 = fZ H 1 1 ∧ kp54 H H')) := by
  obtain ⟨k1_1, ek1_1⟩ : ∃ z, z = fZ H 1 1 := ⟨_, rfl⟩
  have ik1_1 : k1_1.toInt = (fZ H 1 1).toInt := by rw [← ek1_1]
  have bk1_1 : 0 ≤ k1_1.toInt ∧ k1_1.toInt ≤ 900 := by rw [ek1_1]; exact fZ_of hI sx_1 rfl
  have mkfr : kp54 H H := kp54_r
  refine gG_call [(0, .ref 0), (1, .int a1), (2, .int a2)] ⟨rfl, rfl, rfl, trivial⟩ ?_
  show gG 3 zB_127 (mzBlk zB_127 0) [(0, .ref 0), (1, .int a1), (2, .int a2)] [] H 0 0 _
  refine g_aload_n rfl ?_
  refine g_gfr hI sx_0 rfl ?_
  refine g_iload_n rfl ?_
  refine g_invvi hI sx_3 rfl rfl rfl rfl (s_12 3 zBo_3 a1 H hI hJ) (fun v79 H77 r78 => ?_)
  obtain ⟨rfl, bv79, p80⟩ := r78
  refine g_if_eq (fun c81 => ?_) (fun c81 => ?_)
  · refine g_iconst (by decide) (fun v82 kv82 => ?_)
    exact g_iret ⟨_, rfl, hI, hJ, (ek1_1.symm.trans ek1_1), mkfr⟩
  · refine g_iload_n rfl ?_
    refine g_invti rfl rfl rfl (s_149 a2 H hI hJ) (fun v85 H83 r84 => ?_)
    obtain ⟨rfl, bv85, p86⟩ := r84
    refine g_if_ne (fun c87 => ?_) (fun c87 => ?_)
    · refine g_aload_n rfl ?_
      refine g_gfr hI sx_0 rfl ?_
      refine g_iload_n rfl ?_
      refine g_iload_n rfl ?_
      refine g_invvi hI sx_43 rfl rfl rfl rfl (v_29 a1 a2 (by omega) H hI hJ) (fun v90 H88 r89 => ?_)
      obtain ⟨hIH88, hJH88, w91, m92⟩ := r89
      have e93 : k1_1 = fZ H88 1 1 := ek1_1.trans w91.symm
      have m94 : kp54 H H88 := kp54_t mkfr m92
      exact g_iret ⟨_, rfl, hIH88, hJH88, (e93.symm.trans ek1_1), m94⟩
    · refine g_nop ?_
      refine g_iconst (by decide) (fun v95 kv95 => ?_)
      exact g_iret ⟨_, rfl, hI, hJ, (ek1_1.symm.trans ek1_1), mkfr⟩
set_option maxRecDepth 4000 in
set_option maxHeartbeats 4000000 in
/-- X9.met -/
theorem v_131 (a1 : Int32) (a2 : Int32) (a3 : Int32) (H : mzH) (hI : gI SX H) (hJ : JX H) : gCall 131 [.ref 0, .int a1, .int a2, .int a3] H (gRi (fun v H' => gI SX H' ∧ JX H' ∧ fZ H' 1 1 = fZ H 1 1 ∧ kp54 H H')) := by
  obtain ⟨k1_1, ek1_1⟩ : ∃ z, z = fZ H 1 1 := ⟨_, rfl⟩
  have ik1_1 : k1_1.toInt = (fZ H 1 1).toInt := by rw [← ek1_1]
  have bk1_1 : 0 ≤ k1_1.toInt ∧ k1_1.toInt ≤ 900 := by rw [ek1_1]; exact fZ_of hI sx_1 rfl
  have mkfr : kp54 H H := kp54_r
  refine gG_call [(0, .ref 0), (1, .int a1), (2, .int a2), (3, .int a3)] ⟨rfl, rfl, rfl, rfl, trivial⟩ ?_
  show gG 4 zB_131 (mzBlk zB_131 0) [(0, .ref 0), (1, .int a1), (2, .int a2), (3, .int a3)] [] H 0 0 _
  refine g_iload_n rfl ?_
  refine g_invti rfl rfl rfl (s_149 a1 H hI hJ) (fun v99 H97 r98 => ?_)
  obtain ⟨rfl, bv99, p100⟩ := r98
  refine g_if_eq (fun c101 => ?_) (fun c101 => ?_)
  · refine g_iconst (by decide) (fun v102 kv102 => ?_)
    exact g_iret ⟨_, rfl, hI, hJ, (ek1_1.symm.trans ek1_1), mkfr⟩
  · refine g_iload_n rfl ?_
    refine g_invti rfl rfl rfl (s_150 a2 H hI hJ) (fun v105 H103 r104 => ?_)
    obtain ⟨rfl, bv105, p106⟩ := r104
    refine g_if_eq (fun c107 => ?_) (fun c107 => ?_)
    · refine g_iconst (by decide) (fun v108 kv108 => ?_)
      exact g_iret ⟨_, rfl, hI, hJ, (ek1_1.symm.trans ek1_1), mkfr⟩
    · refine g_iload_n rfl ?_
      refine g_if_ge (fun c109 => ?_) (fun c109 => ?_)
      · refine g_aload_n rfl ?_
        refine g_gfr hI sx_0 rfl ?_
        refine g_iload_n rfl ?_
        refine g_iload_n rfl ?_
        refine g_invvl hI sx_24 rfl rfl rfl rfl (v_64 a1 (by omega) a2 H hI hJ) (fun v112 H110 r111 => ?_)
        obtain ⟨hIH110, hJH110, w113, m114⟩ := r111
        have e115 : k1_1 = fZ H110 1 1 := ek1_1.trans w113.symm
        have m116 : kp54 H H110 := kp54_t mkfr m114
        refine g_iload_n rfl ?_
        refine g_invti rfl rfl rfl (s_153 v112 a3 H110 hIH110 hJH110) (fun v119 H117 r118 => ?_)
        obtain rfl := r118
        exact g_iret ⟨_, rfl, hIH110, hJH110, (e115.symm.trans ek1_1), m116⟩
      · refine g_nop ?_
        refine g_iconst (by decide) (fun v120 kv120 => ?_)
        exact g_iret ⟨_, rfl, hI, hJ, (ek1_1.symm.trans ek1_1), mkfr⟩
set_option maxRecDepth 4000 in
set_option maxHeartbeats 4000000 in
/-- X9.wereIn -/
theorem v_132 (a1 : Int32) (a2 : Int32) (a3 : Int32) (a4 : Int32) (H : mzH) (hI : gI SX H) (hJ : JX H) : gCall 132 [.ref 0, .int a1, .int a2, .int a3, .int a4] H (gRi (fun v H' => gI SX H' ∧ JX H' ∧ fZ H' 1 1 = fZ H 1 1 ∧ kp54 H H')) := by
  obtain ⟨k1_1, ek1_1⟩ : ∃ z, z = fZ H 1 1 := ⟨_, rfl⟩
  have ik1_1 : k1_1.toInt = (fZ H 1 1).toInt := by rw [← ek1_1]
  have bk1_1 : 0 ≤ k1_1.toInt ∧ k1_1.toInt ≤ 900 := by rw [ek1_1]; exact fZ_of hI sx_1 rfl
  have mkfr : kp54 H H := kp54_r
  refine gG_call [(0, .ref 0), (1, .int a1), (2, .int a2), (3, .int a3), (4, .int a4)] ⟨rfl, rfl, rfl, rfl, rfl, trivial⟩ ?_
  show gG 5 zB_132 (mzBlk zB_132 0) [(0, .ref 0), (1, .int a1), (2, .int a2), (3, .int a3), (4, .int a4)] [] H 0 0 _
  refine g_iload_n rfl ?_
  refine g_invti rfl rfl rfl (s_149 a1 H hI hJ) (fun v131 H129 r130 => ?_)
  obtain ⟨rfl, bv131, p132⟩ := r130
  refine g_if_eq (fun c133 => ?_) (fun c133 => ?_)
  · refine g_iconst (by decide) (fun v134 kv134 => ?_)
    exact g_iret ⟨_, rfl, hI, hJ, (ek1_1.symm.trans ek1_1), mkfr⟩
  · refine g_iload_n rfl ?_
    refine g_invti rfl rfl rfl (s_150 a2 H hI hJ) (fun v137 H135 r136 => ?_)
    obtain ⟨rfl, bv137, p138⟩ := r136
    refine g_if_eq (fun c139 => ?_) (fun c139 => ?_)
    · refine g_iconst (by decide) (fun v140 kv140 => ?_)
      exact g_iret ⟨_, rfl, hI, hJ, (ek1_1.symm.trans ek1_1), mkfr⟩
    · refine g_iload_n rfl ?_
      refine g_invti rfl rfl rfl (s_150 a3 H hI hJ) (fun v143 H141 r142 => ?_)
      obtain ⟨rfl, bv143, p144⟩ := r142
      refine g_if_eq (fun c145 => ?_) (fun c145 => ?_)
      · refine g_iconst (by decide) (fun v146 kv146 => ?_)
        exact g_iret ⟨_, rfl, hI, hJ, (ek1_1.symm.trans ek1_1), mkfr⟩
      · refine g_iload_n rfl ?_
        refine g_iload_n rfl ?_
        refine g_if2_lt (fun c147 => ?_) (fun c147 => ?_)
        · refine g_iconst (by decide) (fun v148 kv148 => ?_)
          exact g_iret ⟨_, rfl, hI, hJ, (ek1_1.symm.trans ek1_1), mkfr⟩
        · refine g_iload rfl ?_
          refine g_if_ge (fun c149 => ?_) (fun c149 => ?_)
          · refine g_aload_n rfl ?_
            refine g_gfr hI sx_0 rfl ?_
            refine g_iload_n rfl ?_
            refine g_iload_n rfl ?_
            refine g_iload_n rfl ?_
            refine g_invvl hI sx_24 rfl rfl rfl rfl (v_65 a1 a2 a3 H hI hJ) (fun v152 H150 r151 => ?_)
            obtain ⟨hIH150, hJH150, w153, m154⟩ := r151
            have e155 : k1_1 = fZ H150 1 1 := ek1_1.trans w153.symm
            have m156 : kp54 H H150 := kp54_t mkfr m154
            refine g_iload rfl ?_
            refine g_invti rfl rfl rfl (s_153 v152 a4 H150 hIH150 hJH150) (fun v159 H157 r158 => ?_)
            obtain rfl := r158
            exact g_iret ⟨_, rfl, hIH150, hJH150, (e155.symm.trans ek1_1), m156⟩
          · refine g_nop ?_
            refine g_iconst (by decide) (fun v160 kv160 => ?_)
            exact g_iret ⟨_, rfl, hI, hJ, (ek1_1.symm.trans ek1_1), mkfr⟩
set_option maxRecDepth 4000 in
set_option maxHeartbeats 4000000 in
/-- X9.most -/
theorem v_133 (a1 : Int32) (H : mzH) (hI : gI SX H) (hJ : JX H) : gCall 133 [.ref 0, .int a1] H (gRi (fun v H' => gI SX H' ∧ JX H' ∧ fZ H' 1 1 = fZ H 1 1 ∧ kp54 H H')) := by
  obtain ⟨k1_1, ek1_1⟩ : ∃ z, z = fZ H 1 1 := ⟨_, rfl⟩
  have ik1_1 : k1_1.toInt = (fZ H 1 1).toInt := by rw [← ek1_1]
  have bk1_1 : 0 ≤ k1_1.toInt ∧ k1_1.toInt ≤ 900 := by rw [ek1_1]; exact fZ_of hI sx_1 rfl
  have mkfr : kp54 H H := kp54_r
  refine gG_call [(0, .ref 0), (1, .int a1)] ⟨rfl, rfl, trivial⟩ ?_
  show gG 2 zB_133 (mzBlk zB_133 0) [(0, .ref 0), (1, .int a1)] [] H 0 0 _
  refine g_iload_n rfl ?_
  refine g_invti rfl rfl rfl (s_149 a1 H hI hJ) (fun v55 H53 r54 => ?_)
  obtain ⟨rfl, bv55, p56⟩ := r54
  refine g_if_eq (fun c57 => ?_) (fun c57 => ?_)
  · refine g_iconst (by decide) (fun v58 kv58 => ?_)
    refine g_nop ?_
    exact g_iret ⟨_, rfl, hI, hJ, (ek1_1.symm.trans ek1_1), mkfr⟩
  · refine g_aload_n rfl ?_
    refine g_gfr hI sx_0 rfl ?_
    refine g_iload_n rfl ?_
    refine g_invvi hI sx_24 rfl rfl rfl rfl (v_66 a1 (by omega) H hI hJ) (fun v61 H59 r60 => ?_)
    obtain ⟨hIH59, hJH59, w62, m63⟩ := r60
    have e64 : k1_1 = fZ H59 1 1 := ek1_1.trans w62.symm
    have m65 : kp54 H H59 := kp54_t mkfr m63
    refine g_goto ?_
    exact g_iret ⟨_, rfl, hIH59, hJH59, (e64.symm.trans ek1_1), m65⟩
set_option maxRecDepth 4000 in
set_option maxHeartbeats 4000000 in
/-- X9.still -/
theorem v_134 (a1 : Int32) (a2 : Int32) (H : mzH) (hI : gI SX H) (hJ : JX H) : gCall 134 [.ref 0, .int a1, .int a2] H (gRi (fun v H' => gI SX H' ∧ JX H' ∧ fZ H' 1 1 = fZ H 1 1 ∧ kp54 H H')) := by
  obtain ⟨k1_1, ek1_1⟩ : ∃ z, z = fZ H 1 1 := ⟨_, rfl⟩
  have ik1_1 : k1_1.toInt = (fZ H 1 1).toInt := by rw [← ek1_1]
  have bk1_1 : 0 ≤ k1_1.toInt ∧ k1_1.toInt ≤ 900 := by rw [ek1_1]; exact fZ_of hI sx_1 rfl
  have mkfr : kp54 H H := kp54_r
  refine gG_call [(0, .ref 0), (1, .int a1), (2, .int a2)] ⟨rfl, rfl, rfl, trivial⟩ ?_
  show gG 3 zB_134 (mzBlk zB_134 0) [(0, .ref 0), (1, .int a1), (2, .int a2)] [] H 0 0 _
  refine g_iload_n rfl ?_
  refine g_invti rfl rfl rfl (s_149 a1 H hI hJ) (fun v79 H77 r78 => ?_)
  obtain ⟨rfl, bv79, p80⟩ := r78
  refine g_if_eq (fun c81 => ?_) (fun c81 => ?_)
  · refine g_iconst (by decide) (fun v82 kv82 => ?_)
    exact g_iret ⟨_, rfl, hI, hJ, (ek1_1.symm.trans ek1_1), mkfr⟩
  · refine g_iload_n rfl ?_
    refine g_invti rfl rfl rfl (s_150 a2 H hI hJ) (fun v85 H83 r84 => ?_)
    obtain ⟨rfl, bv85, p86⟩ := r84
    refine g_if_ne (fun c87 => ?_) (fun c87 => ?_)
    · refine g_aload_n rfl ?_
      refine g_gfr hI sx_0 rfl ?_
      refine g_iload_n rfl ?_
      refine g_iload_n rfl ?_
      refine g_invvi hI sx_24 rfl rfl rfl rfl (v_67 a1 (by omega) a2 H hI hJ) (fun v90 H88 r89 => ?_)
      obtain ⟨hIH88, hJH88, w91, m92⟩ := r89
      have e93 : k1_1 = fZ H88 1 1 := ek1_1.trans w91.symm
      have m94 : kp54 H H88 := kp54_t mkfr m92
      exact g_iret ⟨_, rfl, hIH88, hJH88, (e93.symm.trans ek1_1), m94⟩
    · refine g_nop ?_
      refine g_iconst (by decide) (fun v95 kv95 => ?_)
      exact g_iret ⟨_, rfl, hI, hJ, (ek1_1.symm.trans ek1_1), mkfr⟩
set_option maxRecDepth 4000 in
set_option maxHeartbeats 4000000 in
/-- X9.components -/
theorem v_135 (a1 : Int32) (a2 : Int32) (H : mzH) (hI : gI SX H) (hJ : JX H) : gCall 135 [.ref 0, .int a1, .int a2] H (gRi (fun v H' => gI SX H' ∧ JX H' ∧ fZ H' 1 1 = fZ H 1 1 ∧ kp54 H H')) := by
  obtain ⟨k1_1, ek1_1⟩ : ∃ z, z = fZ H 1 1 := ⟨_, rfl⟩
  have ik1_1 : k1_1.toInt = (fZ H 1 1).toInt := by rw [← ek1_1]
  have bk1_1 : 0 ≤ k1_1.toInt ∧ k1_1.toInt ≤ 900 := by rw [ek1_1]; exact fZ_of hI sx_1 rfl
  have mkfr : kp54 H H := kp54_r
  refine gG_call [(0, .ref 0), (1, .int a1), (2, .int a2)] ⟨rfl, rfl, rfl, trivial⟩ ?_
  show gG 3 zB_135 (mzBlk zB_135 0) [(0, .ref 0), (1, .int a1), (2, .int a2)] [] H 0 0 _
  refine g_aload_n rfl ?_
  refine g_gfr hI sx_0 rfl ?_
  refine g_iload_n rfl ?_
  refine g_invvi hI sx_3 rfl rfl rfl rfl (s_11 3 zBo_3 a1 H hI hJ) (fun v87 H85 r86 => ?_)
  obtain ⟨rfl, bv87, p88⟩ := r86
  refine g_if_eq (fun c89 => ?_) (fun c89 => ?_)
  · refine g_iconst (by decide) (fun v90 kv90 => ?_)
    exact g_iret ⟨_, rfl, hI, hJ, (ek1_1.symm.trans ek1_1), mkfr⟩
  · refine g_iload_n rfl ?_
    refine g_invti rfl rfl rfl (s_150 a2 H hI hJ) (fun v93 H91 r92 => ?_)
    obtain ⟨rfl, bv93, p94⟩ := r92
    refine g_if_ne (fun c95 => ?_) (fun c95 => ?_)
    · refine g_aload_n rfl ?_
      refine g_gfr hI sx_0 rfl ?_
      refine g_iload_n rfl ?_
      refine g_invva hI sx_24 rfl rfl rfl rfl (v_55 a2 H hI hJ) (fun H96 r97 => ?_)
      obtain ⟨hIH96, hJH96, w98, m99⟩ := r97
      have e100 : k1_1 = fZ H96 1 1 := ek1_1.trans w98.symm
      have m101 : kp54 H H96 := kp54_t mkfr m99
      refine g_iload_n rfl ?_
      refine g_invvi hIH96 sx_28 rfl rfl rfl rfl (s_108 28 zWo_28 a1 H96 hIH96 hJH96) (fun v104 H102 r103 => ?_)
      obtain rfl := r103
      exact g_iret ⟨_, rfl, hIH96, hJH96, (e100.symm.trans ek1_1), m101⟩
    · refine g_nop ?_
      refine g_iconst (by decide) (fun v105 kv105 => ?_)
      exact g_iret ⟨_, rfl, hI, hJ, (ek1_1.symm.trans ek1_1), mkfr⟩
set_option maxRecDepth 4000 in
set_option maxHeartbeats 4000000 in
/-- X9.dwelt -/
theorem v_136 (a1 : Int32) (a2 : Int32) (H : mzH) (hI : gI SX H) (hJ : JX H) : gCall 136 [.ref 0, .int a1, .int a2] H (gRi (fun v H' => gI SX H' ∧ JX H' ∧ fZ H' 1 1 = fZ H 1 1 ∧ kp54 H H')) := by
  obtain ⟨k1_1, ek1_1⟩ : ∃ z, z = fZ H 1 1 := ⟨_, rfl⟩
  have ik1_1 : k1_1.toInt = (fZ H 1 1).toInt := by rw [← ek1_1]
  have bk1_1 : 0 ≤ k1_1.toInt ∧ k1_1.toInt ≤ 900 := by rw [ek1_1]; exact fZ_of hI sx_1 rfl
  have mkfr : kp54 H H := kp54_r
  refine gG_call [(0, .ref 0), (1, .int a1), (2, .int a2)] ⟨rfl, rfl, rfl, trivial⟩ ?_
  show gG 3 zB_136 (mzBlk zB_136 0) [(0, .ref 0), (1, .int a1), (2, .int a2)] [] H 0 0 _
  refine g_iload_n rfl ?_
  refine g_invti rfl rfl rfl (s_149 a1 H hI hJ) (fun v75 H73 r74 => ?_)
  obtain ⟨rfl, bv75, p76⟩ := r74
  refine g_if_eq (fun c77 => ?_) (fun c77 => ?_)
  · refine g_iconst (by decide) (fun v78 kv78 => ?_)
    exact g_iret ⟨_, rfl, hI, hJ, (ek1_1.symm.trans ek1_1), mkfr⟩
  · refine g_aload_n rfl ?_
    refine g_iload_n rfl ?_
    refine g_invvi hI sx_0 rfl rfl rfl rfl (s_151 a2 H hI hJ) (fun v81 H79 r80 => ?_)
    obtain ⟨rfl, bv81⟩ := r80
    refine g_if_ne (fun c82 => ?_) (fun c82 => ?_)
    · refine g_aload_n rfl ?_
      refine g_gfr hI sx_0 rfl ?_
      refine g_iload_n rfl ?_
      refine g_iload_n rfl ?_
      refine g_invvi hI sx_24 rfl rfl rfl rfl (v_60 a1 (by omega) a2 H hI hJ) (fun v85 H83 r84 => ?_)
      obtain ⟨hIH83, hJH83, w86, m87⟩ := r84
      have e88 : k1_1 = fZ H83 1 1 := ek1_1.trans w86.symm
      have m89 : kp54 H H83 := kp54_t mkfr m87
      exact g_iret ⟨_, rfl, hIH83, hJH83, (e88.symm.trans ek1_1), m89⟩
    · refine g_nop ?_
      refine g_iconst (by decide) (fun v90 kv90 => ?_)
      exact g_iret ⟨_, rfl, hI, hJ, (ek1_1.symm.trans ek1_1), mkfr⟩
set_option maxRecDepth 4000 in
set_option maxHeartbeats 4000000 in
/-- X9.flow -/
theorem v_137 (a1 : Int32) (a2 : Int32) (H : mzH) (hI : gI SX H) (hJ : JX H) : gCall 137 [.ref 0, .int a1, .int a2] H (gRi (fun v H' => gI SX H' ∧ JX H' ∧ fZ H' 1 1 = fZ H 1 1 ∧ kp54 H H')) := by
  obtain ⟨k1_1, ek1_1⟩ : ∃ z, z = fZ H 1 1 := ⟨_, rfl⟩
  have ik1_1 : k1_1.toInt = (fZ H 1 1).toInt := by rw [← ek1_1]
  have bk1_1 : 0 ≤ k1_1.toInt ∧ k1_1.toInt ≤ 900 := by rw [ek1_1]; exact fZ_of hI sx_1 rfl
  have mkfr : kp54 H H := kp54_r
  refine gG_call [(0, .ref 0), (1, .int a1), (2, .int a2)] ⟨rfl, rfl, rfl, trivial⟩ ?_
  show gG 3 zB_137 (mzBlk zB_137 0) [(0, .ref 0), (1, .int a1), (2, .int a2)] [] H 0 0 _
  refine g_aload_n rfl ?_
  refine g_iload_n rfl ?_
  refine g_invvi hI sx_0 rfl rfl rfl rfl (s_151 a1 H hI hJ) (fun v79 H77 r78 => ?_)
  obtain ⟨rfl, bv79⟩ := r78
  refine g_if_eq (fun c80 => ?_) (fun c80 => ?_)
  · refine g_iconst (by decide) (fun v81 kv81 => ?_)
    exact g_iret ⟨_, rfl, hI, hJ, (ek1_1.symm.trans ek1_1), mkfr⟩
  · refine g_aload_n rfl ?_
    refine g_iload_n rfl ?_
    refine g_invvi hI sx_0 rfl rfl rfl rfl (s_152 a2 H hI hJ) (fun v84 H82 r83 => ?_)
    obtain ⟨rfl, bv84⟩ := r83
    refine g_if_eq (fun c85 => ?_) (fun c85 => ?_)
    · refine g_iconst (by decide) (fun v86 kv86 => ?_)
      exact g_iret ⟨_, rfl, hI, hJ, (ek1_1.symm.trans ek1_1), mkfr⟩
    · refine g_iload_n rfl ?_
      refine g_iload_n rfl ?_
      refine g_if2_ne (fun c87 => ?_) (fun c87 => ?_)
      · refine g_aload_n rfl ?_
        refine g_gfr hI sx_0 rfl ?_
        refine g_iload_n rfl ?_
        refine g_iload_n rfl ?_
        refine g_invvi hI sx_24 rfl rfl rfl rfl (v_61 a1 a2 H hI hJ) (fun v90 H88 r89 => ?_)
        obtain ⟨hIH88, hJH88, w91, m92⟩ := r89
        have e93 : k1_1 = fZ H88 1 1 := ek1_1.trans w91.symm
        have m94 : kp54 H H88 := kp54_t mkfr m92
        exact g_iret ⟨_, rfl, hIH88, hJH88, (e93.symm.trans ek1_1), m94⟩
      · refine g_nop ?_
        refine g_iconst (by decide) (fun v95 kv95 => ?_)
        exact g_iret ⟨_, rfl, hI, hJ, (ek1_1.symm.trans ek1_1), mkfr⟩
set_option maxRecDepth 4000 in
set_option maxHeartbeats 4000000 in
/-- X9.cause -/
theorem v_138 (a1 : Int32) (H : mzH) (hI : gI SX H) (hJ : JX H) : gCall 138 [.ref 0, .int a1] H (gRi (fun v H' => gI SX H' ∧ JX H' ∧ fZ H' 1 1 = fZ H 1 1 ∧ kp54 H H')) := by
  obtain ⟨k1_1, ek1_1⟩ : ∃ z, z = fZ H 1 1 := ⟨_, rfl⟩
  have ik1_1 : k1_1.toInt = (fZ H 1 1).toInt := by rw [← ek1_1]
  have bk1_1 : 0 ≤ k1_1.toInt ∧ k1_1.toInt ≤ 900 := by rw [ek1_1]; exact fZ_of hI sx_1 rfl
  have mkfr : kp54 H H := kp54_r
  refine gG_call [(0, .ref 0), (1, .int a1)] ⟨rfl, rfl, trivial⟩ ?_
  show gG 2 zB_138 (mzBlk zB_138 0) [(0, .ref 0), (1, .int a1)] [] H 0 0 _
  refine g_aload_n rfl ?_
  refine g_gfr hI sx_0 rfl ?_
  refine g_iload_n rfl ?_
  refine g_invvi hI sx_3 rfl rfl rfl rfl (s_12 3 zBo_3 a1 H hI hJ) (fun v83 H81 r82 => ?_)
  obtain ⟨rfl, bv83, p84⟩ := r82
  refine g_if_ne (fun c85 => ?_) (fun c85 => ?_)
  · refine g_aload_n rfl ?_
    refine g_gfr hI sx_0 rfl ?_
    refine g_gfr hI sx_24 rfl ?_
    refine g_iload_n rfl ?_
    refine g_iaload hI sx_42 rfl (by omega) (fun v86 ev86 lv86 uv86 => ?_)
    refine g_if_ne (fun c87 => ?_) (fun c87 => ?_)
    · refine g_aload_n rfl ?_
      refine g_gfr hI sx_0 rfl ?_
      refine g_iload_n rfl ?_
      refine g_invvl hI sx_43 rfl rfl rfl rfl (v_31 a1 (by omega) H hI hJ) (fun v90 H88 r89 => ?_)
      obtain ⟨hIH88, hJH88, w91, m92⟩ := r89
      have e93 : k1_1 = fZ H88 1 1 := ek1_1.trans w91.symm
      have m94 : kp54 H H88 := kp54_t mkfr m92
      refine g_iconst (by decide) (fun v95 kv95 => ?_)
      refine g_invti rfl rfl rfl (s_153 v90 v95 H88 hIH88 hJH88) (fun v98 H96 r97 => ?_)
      obtain rfl := r97
      exact g_iret ⟨_, rfl, hIH88, hJH88, (e93.symm.trans ek1_1), m94⟩
    · refine g_bipush (by decide) (fun v99 kv99 => ?_)
      exact g_iret ⟨_, rfl, hI, hJ, (ek1_1.symm.trans ek1_1), mkfr⟩
  · refine g_iconst (by decide) (fun v100 kv100 => ?_)
    exact g_iret ⟨_, rfl, hI, hJ, (ek1_1.symm.trans ek1_1), mkfr⟩
set_option maxRecDepth 4000 in
set_option maxHeartbeats 4000000 in
/-- X9.needs -/
theorem v_139 (a1 : Int32) (a2 : Int32) (H : mzH) (hI : gI SX H) (hJ : JX H) : gCall 139 [.ref 0, .int a1, .int a2] H (gRi (fun v H' => gI SX H' ∧ JX H' ∧ fZ H' 1 1 = fZ H 1 1 ∧ kp54 H H')) := by
  obtain ⟨k1_1, ek1_1⟩ : ∃ z, z = fZ H 1 1 := ⟨_, rfl⟩
  have ik1_1 : k1_1.toInt = (fZ H 1 1).toInt := by rw [← ek1_1]
  have bk1_1 : 0 ≤ k1_1.toInt ∧ k1_1.toInt ≤ 900 := by rw [ek1_1]; exact fZ_of hI sx_1 rfl
  have mkfr : kp54 H H := kp54_r
  refine gG_call [(0, .ref 0), (1, .int a1), (2, .int a2)] ⟨rfl, rfl, rfl, trivial⟩ ?_
  show gG 3 zB_139 (mzBlk zB_139 0) [(0, .ref 0), (1, .int a1), (2, .int a2)] [] H 0 0 _
  refine g_aload_n rfl ?_
  refine g_gfr hI sx_0 rfl ?_
  refine g_iload_n rfl ?_
  refine g_invvi hI sx_3 rfl rfl rfl rfl (s_12 3 zBo_3 a1 H hI hJ) (fun v87 H85 r86 => ?_)
  obtain ⟨rfl, bv87, p88⟩ := r86
  refine g_if_eq (fun c89 => ?_) (fun c89 => ?_)
  · refine g_iconst (by decide) (fun v90 kv90 => ?_)
    exact g_iret ⟨_, rfl, hI, hJ, (ek1_1.symm.trans ek1_1), mkfr⟩
  · refine g_iload_n rfl ?_
    refine g_if_ge (fun c91 => ?_) (fun c91 => ?_)
    · refine g_aload_n rfl ?_
      refine g_gfr hI sx_0 rfl ?_
      refine g_gfr hI sx_24 rfl ?_
      refine g_iload_n rfl ?_
      refine g_iaload hI sx_42 rfl (by omega) (fun v92 ev92 lv92 uv92 => ?_)
      refine g_if_eq (fun c93 => ?_) (fun c93 => ?_)
      · refine g_aload_n rfl ?_
        refine g_gfr hI sx_0 rfl ?_
        refine g_iload_n rfl ?_
        refine g_invvl hI sx_43 rfl rfl rfl rfl (v_31 a1 (by omega) H hI hJ) (fun v96 H94 r95 => ?_)
        obtain ⟨hIH94, hJH94, w97, m98⟩ := r95
        have e99 : k1_1 = fZ H94 1 1 := ek1_1.trans w97.symm
        have m100 : kp54 H H94 := kp54_t mkfr m98
        refine g_iload_n rfl ?_
        refine g_invti rfl rfl rfl (s_153 v96 a2 H94 hIH94 hJH94) (fun v103 H101 r102 => ?_)
        obtain rfl := r102
        exact g_iret ⟨_, rfl, hIH94, hJH94, (e99.symm.trans ek1_1), m100⟩
      · refine g_bipush (by decide) (fun v104 kv104 => ?_)
        exact g_iret ⟨_, rfl, hI, hJ, (ek1_1.symm.trans ek1_1), mkfr⟩
    · refine g_nop ?_
      refine g_iconst (by decide) (fun v105 kv105 => ?_)
      exact g_iret ⟨_, rfl, hI, hJ, (ek1_1.symm.trans ek1_1), mkfr⟩
set_option maxRecDepth 4000 in
set_option maxHeartbeats 4000000 in
/-- X9.ifAt -/
theorem v_140 (a1 : Int32) (a2 : Int32) (a3 : Int32) (H : mzH) (hI : gI SX H) (hJ : JX H) : gCall 140 [.ref 0, .int a1, .int a2, .int a3] H (gRi (fun v H' => gI SX H' ∧ JX H' ∧ fZ H' 1 1 = fZ H 1 1 ∧ kp54 H H')) := by
  obtain ⟨k1_1, ek1_1⟩ : ∃ z, z = fZ H 1 1 := ⟨_, rfl⟩
  have ik1_1 : k1_1.toInt = (fZ H 1 1).toInt := by rw [← ek1_1]
  have bk1_1 : 0 ≤ k1_1.toInt ∧ k1_1.toInt ≤ 900 := by rw [ek1_1]; exact fZ_of hI sx_1 rfl
  have mkfr : kp54 H H := kp54_r
  refine gG_call [(0, .ref 0), (1, .int a1), (2, .int a2), (3, .int a3)] ⟨rfl, rfl, rfl, rfl, trivial⟩ ?_
  show gG 4 zB_140 (mzBlk zB_140 0) [(0, .ref 0), (1, .int a1), (2, .int a2), (3, .int a3)] [] H 0 0 _
  refine g_aload_n rfl ?_
  refine g_gfr hI sx_0 rfl ?_
  refine g_iload_n rfl ?_
  refine g_invvi hI sx_3 rfl rfl rfl rfl (s_12 3 zBo_3 a1 H hI hJ) (fun v103 H101 r102 => ?_)
  obtain ⟨rfl, bv103, p104⟩ := r102
  refine g_if_eq (fun c105 => ?_) (fun c105 => ?_)
  · refine g_sipush (by decide) (fun v106 kv106 => ?_)
    exact g_iret ⟨_, rfl, hI, hJ, (ek1_1.symm.trans ek1_1), mkfr⟩
  · refine g_iload_n rfl ?_
    refine g_invti rfl rfl rfl (s_150 a2 H hI hJ) (fun v109 H107 r108 => ?_)
    obtain ⟨rfl, bv109, p110⟩ := r108
    refine g_if_eq (fun c111 => ?_) (fun c111 => ?_)
    · refine g_sipush (by decide) (fun v112 kv112 => ?_)
      exact g_iret ⟨_, rfl, hI, hJ, (ek1_1.symm.trans ek1_1), mkfr⟩
    · refine g_iload_n rfl ?_
      refine g_iconst (by decide) (fun v113 kv113 => ?_)
      refine g_if2_lt (fun c114 => ?_) (fun c114 => ?_)
      · refine g_sipush (by decide) (fun v115 kv115 => ?_)
        exact g_iret ⟨_, rfl, hI, hJ, (ek1_1.symm.trans ek1_1), mkfr⟩
      · refine g_iload_n rfl ?_
        refine g_bipush (by decide) (fun v116 kv116 => ?_)
        refine g_if2_lt (fun c117 => ?_) (fun c117 => ?_)
        · refine g_aload_n rfl ?_
          refine g_gfr hI sx_0 rfl ?_
          refine g_iload_n rfl ?_
          refine g_iload_n rfl ?_
          refine g_iload_n rfl ?_
          refine g_invvi hI sx_43 rfl rfl rfl rfl (v_32 a1 (by omega) a2 a3 (by omega) H hI hJ) (fun v120 H118 r119 => ?_)
          obtain ⟨hIH118, hJH118, w121, m122⟩ := r119
          have e123 : k1_1 = fZ H118 1 1 := ek1_1.trans w121.symm
          have m124 : kp54 H H118 := kp54_t mkfr m122
          exact g_iret ⟨_, rfl, hIH118, hJH118, (e123.symm.trans ek1_1), m124⟩
        · refine g_nop ?_
          refine g_sipush (by decide) (fun v125 kv125 => ?_)
          exact g_iret ⟨_, rfl, hI, hJ, (ek1_1.symm.trans ek1_1), mkfr⟩
set_option maxRecDepth 4000 in
set_option maxHeartbeats 4000000 in
/-- X9.window -/
theorem v_141 (a1 : Int32) (a2 : Int32) (H : mzH) (hI : gI SX H) (hJ : JX H) : gCall 141 [.ref 0, .int a1, .int a2] H (gRi (fun v H' => gI SX H' ∧ JX H' ∧ fZ H' 1 1 = fZ H 1 1 ∧ kp54 H H')) := by
  obtain ⟨k1_1, ek1_1⟩ : ∃ z, z = fZ H 1 1 := ⟨_, rfl⟩
  have ik1_1 : k1_1.toInt = (fZ H 1 1).toInt := by rw [← ek1_1]
  have bk1_1 : 0 ≤ k1_1.toInt ∧ k1_1.toInt ≤ 900 := by rw [ek1_1]; exact fZ_of hI sx_1 rfl
  have mkfr : kp54 H H := kp54_r
  refine gG_call [(0, .ref 0), (1, .int a1), (2, .int a2)] ⟨rfl, rfl, rfl, trivial⟩ ?_
  show gG 3 zB_141 (mzBlk zB_141 0) [(0, .ref 0), (1, .int a1), (2, .int a2)] [] H 0 0 _
  refine g_aload_n rfl ?_
  refine g_gfr hI sx_0 rfl ?_
  refine g_iload_n rfl ?_
  refine g_invvi hI sx_3 rfl rfl rfl rfl (s_12 3 zBo_3 a1 H hI hJ) (fun v95 H93 r94 => ?_)
  obtain ⟨rfl, bv95, p96⟩ := r94
  refine g_if_eq (fun c97 => ?_) (fun c97 => ?_)
  · refine g_iconst (by decide) (fun v98 kv98 => ?_)
    exact g_iret ⟨_, rfl, hI, hJ, (ek1_1.symm.trans ek1_1), mkfr⟩
  · refine g_iload_n rfl ?_
    refine g_if_lt (fun c99 => ?_) (fun c99 => ?_)
    · refine g_iconst (by decide) (fun v100 kv100 => ?_)
      exact g_iret ⟨_, rfl, hI, hJ, (ek1_1.symm.trans ek1_1), mkfr⟩
    · refine g_iload_n rfl ?_
      refine g_iconst (by decide) (fun v101 kv101 => ?_)
      refine g_if2_le (fun c102 => ?_) (fun c102 => ?_)
      · refine g_aload_n rfl ?_
        refine g_gfr hI sx_0 rfl ?_
        refine g_iload_n rfl ?_
        refine g_invvv hI sx_43 rfl rfl rfl rfl (v_35 a1 (by omega) H hI hJ) (fun H103 r104 => ?_)
        obtain ⟨hIH103, hJH103, w105, m106⟩ := r104
        have e107 : k1_1 = fZ H103 1 1 := ek1_1.trans w105.symm
        have m108 : kp54 H H103 := kp54_t mkfr m106
        refine g_iload_n rfl ?_
        refine g_iconst (by decide) (fun v109 kv109 => ?_)
        refine g_if2_ne (fun c110 => ?_) (fun c110 => ?_)
        · refine g_iload_n rfl ?_
          refine g_if_ne (fun c111 => ?_) (fun c111 => ?_)
          · refine g_aload_n rfl ?_
            refine g_gfr hIH103 sx_0 rfl ?_
            refine g_gfi hIH103 sx_43 rfl (fun v112 ev112 lv112 uv112 => ?_)
            refine g_nop ?_
            exact g_iret ⟨_, rfl, hIH103, hJH103, (e107.symm.trans ek1_1), m108⟩
          · refine g_aload_n rfl ?_
            refine g_gfr hIH103 sx_0 rfl ?_
            refine g_gfi hIH103 sx_43 rfl (fun v113 ev113 lv113 uv113 => ?_)
            refine g_goto ?_
            exact g_iret ⟨_, rfl, hIH103, hJH103, (e107.symm.trans ek1_1), m108⟩
        · refine g_aload_n rfl ?_
          refine g_gfr hIH103 sx_0 rfl ?_
          refine g_gfi hIH103 sx_43 rfl (fun v114 ev114 lv114 uv114 => ?_)
          exact g_iret ⟨_, rfl, hIH103, hJH103, (e107.symm.trans ek1_1), m108⟩
      · refine g_nop ?_
        refine g_iconst (by decide) (fun v115 kv115 => ?_)
        exact g_iret ⟨_, rfl, hI, hJ, (ek1_1.symm.trans ek1_1), mkfr⟩
set_option maxRecDepth 4000 in
set_option maxHeartbeats 4000000 in
/-- X9.lost -/
theorem v_142 (a1 : Int32) (a2 : Int32) (a3 : Int32) (H : mzH) (hI : gI SX H) (hJ : JX H) : gCall 142 [.ref 0, .int a1, .int a2, .int a3] H (gRi (fun v H' => gI SX H' ∧ JX H' ∧ fZ H' 1 1 = fZ H 1 1 ∧ kp54 H H')) := by
  obtain ⟨k1_1, ek1_1⟩ : ∃ z, z = fZ H 1 1 := ⟨_, rfl⟩
  have ik1_1 : k1_1.toInt = (fZ H 1 1).toInt := by rw [← ek1_1]
  have bk1_1 : 0 ≤ k1_1.toInt ∧ k1_1.toInt ≤ 900 := by rw [ek1_1]; exact fZ_of hI sx_1 rfl
  have mkfr : kp54 H H := kp54_r
  refine gG_call [(0, .ref 0), (1, .int a1), (2, .int a2), (3, .int a3)] ⟨rfl, rfl, rfl, rfl, trivial⟩ ?_
  show gG 4 zB_142 (mzBlk zB_142 0) [(0, .ref 0), (1, .int a1), (2, .int a2), (3, .int a3)] [] H 0 0 _
  refine g_iload_n rfl ?_
  refine g_invti rfl rfl rfl (s_150 a1 H hI hJ) (fun v111 H109 r110 => ?_)
  obtain ⟨rfl, bv111, p112⟩ := r110
  refine g_if_eq (fun c113 => ?_) (fun c113 => ?_)
  · refine g_iconst (by decide) (fun v114 kv114 => ?_)
    exact g_iret ⟨_, rfl, hI, hJ, (ek1_1.symm.trans ek1_1), mkfr⟩
  · refine g_iload_n rfl ?_
    refine g_invti rfl rfl rfl (s_150 a2 H hI hJ) (fun v117 H115 r116 => ?_)
    obtain ⟨rfl, bv117, p118⟩ := r116
    refine g_if_eq (fun c119 => ?_) (fun c119 => ?_)
    · refine g_iconst (by decide) (fun v120 kv120 => ?_)
      exact g_iret ⟨_, rfl, hI, hJ, (ek1_1.symm.trans ek1_1), mkfr⟩
    · refine g_iload_n rfl ?_
      refine g_if_ge (fun c121 => ?_) (fun c121 => ?_)
      · refine g_aload_n rfl ?_
        refine g_gfr hI sx_0 rfl ?_
        refine g_iload_n rfl ?_
        refine g_invva hI sx_24 rfl rfl rfl rfl (v_55 a1 H hI hJ) (fun H122 r123 => ?_)
        obtain ⟨hIH122, hJH122, w124, m125⟩ := r123
        have e126 : k1_1 = fZ H122 1 1 := ek1_1.trans w124.symm
        have m127 : kp54 H H122 := kp54_t mkfr m125
        refine g_iload_n rfl ?_
        refine g_iload_n rfl ?_
        refine g_isub (by omega) (fun v128 ev128 => ?_)
        refine g_invvl hIH122 sx_28 rfl rfl rfl rfl (s_106 28 zWo_28 v128 H122 hIH122 hJH122) (fun v131 H129 r130 => ?_)
        obtain rfl := r130
        refine g_iload_n rfl ?_
        refine g_invti rfl rfl rfl (s_153 v131 a3 H122 hIH122 hJH122) (fun v134 H132 r133 => ?_)
        obtain rfl := r133
        exact g_iret ⟨_, rfl, hIH122, hJH122, (e126.symm.trans ek1_1), m127⟩
      · refine g_nop ?_
        refine g_iconst (by decide) (fun v135 kv135 => ?_)
        exact g_iret ⟨_, rfl, hI, hJ, (ek1_1.symm.trans ek1_1), mkfr⟩
set_option maxRecDepth 4000 in
set_option maxHeartbeats 4000000 in
/-- X9.ifSwapped -/
theorem v_143 (a1 : Int32) (a2 : Int32) (a3 : Int32) (H : mzH) (hI : gI SX H) (hJ : JX H) : gCall 143 [.ref 0, .int a1, .int a2, .int a3] H (gRi (fun v H' => gI SX H' ∧ JX H' ∧ fZ H' 1 1 = fZ H 1 1 ∧ kp54 H H')) := by
  obtain ⟨k1_1, ek1_1⟩ : ∃ z, z = fZ H 1 1 := ⟨_, rfl⟩
  have ik1_1 : k1_1.toInt = (fZ H 1 1).toInt := by rw [← ek1_1]
  have bk1_1 : 0 ≤ k1_1.toInt ∧ k1_1.toInt ≤ 900 := by rw [ek1_1]; exact fZ_of hI sx_1 rfl
  have mkfr : kp54 H H := kp54_r
  refine gG_call [(0, .ref 0), (1, .int a1), (2, .int a2), (3, .int a3)] ⟨rfl, rfl, rfl, rfl, trivial⟩ ?_
  show gG 4 zB_143 (mzBlk zB_143 0) [(0, .ref 0), (1, .int a1), (2, .int a2), (3, .int a3)] [] H 0 0 _
  refine g_aload_n rfl ?_
  refine g_gfr hI sx_0 rfl ?_
  refine g_iload_n rfl ?_
  refine g_invvi hI sx_3 rfl rfl rfl rfl (s_12 3 zBo_3 a1 H hI hJ) (fun v111 H109 r110 => ?_)
  obtain ⟨rfl, bv111, p112⟩ := r110
  refine g_if_eq (fun c113 => ?_) (fun c113 => ?_)
  · refine g_sipush (by decide) (fun v114 kv114 => ?_)
    exact g_iret ⟨_, rfl, hI, hJ, (ek1_1.symm.trans ek1_1), mkfr⟩
  · refine g_aload_n rfl ?_
    refine g_gfr hI sx_0 rfl ?_
    refine g_iload_n rfl ?_
    refine g_invvi hI sx_3 rfl rfl rfl rfl (s_12 3 zBo_3 a2 H hI hJ) (fun v117 H115 r116 => ?_)
    obtain ⟨rfl, bv117, p118⟩ := r116
    refine g_if_eq (fun c119 => ?_) (fun c119 => ?_)
    · refine g_sipush (by decide) (fun v120 kv120 => ?_)
      exact g_iret ⟨_, rfl, hI, hJ, (ek1_1.symm.trans ek1_1), mkfr⟩
    · refine g_iload_n rfl ?_
      refine g_iload_n rfl ?_
      refine g_if2_eq (fun c121 => ?_) (fun c121 => ?_)
      · refine g_sipush (by decide) (fun v122 kv122 => ?_)
        exact g_iret ⟨_, rfl, hI, hJ, (ek1_1.symm.trans ek1_1), mkfr⟩
      · refine g_iload_n rfl ?_
        refine g_iconst (by decide) (fun v123 kv123 => ?_)
        refine g_if2_lt (fun c124 => ?_) (fun c124 => ?_)
        · refine g_sipush (by decide) (fun v125 kv125 => ?_)
          exact g_iret ⟨_, rfl, hI, hJ, (ek1_1.symm.trans ek1_1), mkfr⟩
        · refine g_iload_n rfl ?_
          refine g_bipush (by decide) (fun v126 kv126 => ?_)
          refine g_if2_lt (fun c127 => ?_) (fun c127 => ?_)
          · refine g_aload_n rfl ?_
            refine g_gfr hI sx_0 rfl ?_
            refine g_iload_n rfl ?_
            refine g_iload_n rfl ?_
            refine g_iload_n rfl ?_
            refine g_invvi hI sx_43 rfl rfl rfl rfl (v_33 a1 (by omega) a2 (by omega) a3 (by omega) H hI hJ) (fun v130 H128 r129 => ?_)
            obtain ⟨hIH128, hJH128, w131, m132⟩ := r129
            have e133 : k1_1 = fZ H128 1 1 := ek1_1.trans w131.symm
            have m134 : kp54 H H128 := kp54_t mkfr m132
            exact g_iret ⟨_, rfl, hIH128, hJH128, (e133.symm.trans ek1_1), m134⟩
          · refine g_nop ?_
            refine g_sipush (by decide) (fun v135 kv135 => ?_)
            exact g_iret ⟨_, rfl, hI, hJ, (ek1_1.symm.trans ek1_1), mkfr⟩
set_option maxRecDepth 4000 in
set_option maxHeartbeats 4000000 in
/-- X9.busy -/
theorem v_144 (a1 : Int32) (a2 : Int32) (H : mzH) (hI : gI SX H) (hJ : JX H) : gCall 144 [.ref 0, .int a1, .int a2] H (gRi (fun v H' => gI SX H' ∧ JX H' ∧ fZ H' 1 1 = fZ H 1 1 ∧ kp54 H H')) := by
  obtain ⟨k1_1, ek1_1⟩ : ∃ z, z = fZ H 1 1 := ⟨_, rfl⟩
  have ik1_1 : k1_1.toInt = (fZ H 1 1).toInt := by rw [← ek1_1]
  have bk1_1 : 0 ≤ k1_1.toInt ∧ k1_1.toInt ≤ 900 := by rw [ek1_1]; exact fZ_of hI sx_1 rfl
  have mkfr : kp54 H H := kp54_r
  refine gG_call [(0, .ref 0), (1, .int a1), (2, .int a2)] ⟨rfl, rfl, rfl, trivial⟩ ?_
  show gG 3 zB_144 (mzBlk zB_144 0) [(0, .ref 0), (1, .int a1), (2, .int a2)] [] H 0 0 _
  refine g_aload_n rfl ?_
  refine g_iload_n rfl ?_
  refine g_invvi hI sx_0 rfl rfl rfl rfl (s_152 a1 H hI hJ) (fun v111 H109 r110 => ?_)
  obtain ⟨rfl, bv111⟩ := r110
  refine g_if_eq (fun c112 => ?_) (fun c112 => ?_)
  · refine g_iconst (by decide) (fun v113 kv113 => ?_)
    exact g_iret ⟨_, rfl, hI, hJ, (ek1_1.symm.trans ek1_1), mkfr⟩
  · refine g_iload_n rfl ?_
    refine g_if_lt (fun c114 => ?_) (fun c114 => ?_)
    · refine g_iconst (by decide) (fun v115 kv115 => ?_)
      exact g_iret ⟨_, rfl, hI, hJ, (ek1_1.symm.trans ek1_1), mkfr⟩
    · refine g_iload_n rfl ?_
      refine g_iconst (by decide) (fun v116 kv116 => ?_)
      refine g_if2_le (fun c117 => ?_) (fun c117 => ?_)
      · refine g_aload_n rfl ?_
        refine g_gfr hI sx_0 rfl ?_
        refine g_iload_n rfl ?_
        refine g_iload_n rfl ?_
        refine g_if_ne (fun c118 => ?_) (fun c118 => ?_)
        · refine g_iconst (by decide) (fun v119 kv119 => ?_)
          refine g_nop ?_
          refine g_invvi hI sx_24 rfl rfl rfl rfl (v_63 a1 v119 (by omega) H hI hJ) (fun v122 H120 r121 => ?_)
          obtain ⟨hIH120, hJH120, w123, m124⟩ := r121
          have e125 : k1_1 = fZ H120 1 1 := ek1_1.trans w123.symm
          have m126 : kp54 H H120 := kp54_t mkfr m124
          exact g_iret ⟨_, rfl, hIH120, hJH120, (e125.symm.trans ek1_1), m126⟩
        · refine g_iconst (by decide) (fun v127 kv127 => ?_)
          refine g_goto ?_
          refine g_invvi hI sx_24 rfl rfl rfl rfl (v_63 a1 v127 (by omega) H hI hJ) (fun v130 H128 r129 => ?_)
          obtain ⟨hIH128, hJH128, w131, m132⟩ := r129
          have e133 : k1_1 = fZ H128 1 1 := ek1_1.trans w131.symm
          have m134 : kp54 H H128 := kp54_t mkfr m132
          exact g_iret ⟨_, rfl, hIH128, hJH128, (e133.symm.trans ek1_1), m134⟩
      · refine g_nop ?_
        refine g_iconst (by decide) (fun v135 kv135 => ?_)
        exact g_iret ⟨_, rfl, hI, hJ, (ek1_1.symm.trans ek1_1), mkfr⟩
set_option maxRecDepth 4000 in
set_option maxHeartbeats 4000000 in
/-- X9.travelled -/
theorem v_145 (a1 : Int32) (H : mzH) (hI : gI SX H) (hJ : JX H) : gCall 145 [.ref 0, .int a1] H (gRi (fun v H' => gI SX H' ∧ JX H' ∧ fZ H' 1 1 = fZ H 1 1 ∧ kp54 H H')) := by
  obtain ⟨k1_1, ek1_1⟩ : ∃ z, z = fZ H 1 1 := ⟨_, rfl⟩
  have ik1_1 : k1_1.toInt = (fZ H 1 1).toInt := by rw [← ek1_1]
  have bk1_1 : 0 ≤ k1_1.toInt ∧ k1_1.toInt ≤ 900 := by rw [ek1_1]; exact fZ_of hI sx_1 rfl
  have mkfr : kp54 H H := kp54_r
  refine gG_call [(0, .ref 0), (1, .int a1)] ⟨rfl, rfl, trivial⟩ ?_
  show gG 2 zB_145 (mzBlk zB_145 0) [(0, .ref 0), (1, .int a1)] [] H 0 0 _
  refine g_iload_n rfl ?_
  refine g_invti rfl rfl rfl (s_149 a1 H hI hJ) (fun v55 H53 r54 => ?_)
  obtain ⟨rfl, bv55, p56⟩ := r54
  refine g_if_eq (fun c57 => ?_) (fun c57 => ?_)
  · refine g_iconst (by decide) (fun v58 kv58 => ?_)
    refine g_nop ?_
    exact g_iret ⟨_, rfl, hI, hJ, (ek1_1.symm.trans ek1_1), mkfr⟩
  · refine g_aload_n rfl ?_
    refine g_gfr hI sx_0 rfl ?_
    refine g_iload_n rfl ?_
    refine g_invvi hI sx_24 rfl rfl rfl rfl (v_62 a1 (by omega) H hI hJ) (fun v61 H59 r60 => ?_)
    obtain ⟨hIH59, hJH59, w62, m63⟩ := r60
    have e64 : k1_1 = fZ H59 1 1 := ek1_1.trans w62.symm
    have m65 : kp54 H H59 := kp54_t mkfr m63
    refine g_goto ?_
    exact g_iret ⟨_, rfl, hIH59, hJH59, (e64.symm.trans ek1_1), m65⟩
set_option maxRecDepth 4000 in
set_option maxHeartbeats 4000000 in
/-- X9.soonest -/
theorem v_147 (a1 : Int32) (a2 : Int32) (a3 : Int32) (H : mzH) (hI : gI SX H) (hJ : JX H) : gCall 147 [.ref 0, .int a1, .int a2, .int a3] H (gRi (fun v H' => gI SX H' ∧ JX H' ∧ fZ H' 1 1 = fZ H 1 1 ∧ kp54 H H')) := by
  obtain ⟨k1_1, ek1_1⟩ : ∃ z, z = fZ H 1 1 := ⟨_, rfl⟩
  have ik1_1 : k1_1.toInt = (fZ H 1 1).toInt := by rw [← ek1_1]
  have bk1_1 : 0 ≤ k1_1.toInt ∧ k1_1.toInt ≤ 900 := by rw [ek1_1]; exact fZ_of hI sx_1 rfl
  have mkfr : kp54 H H := kp54_r
  refine gG_call [(0, .ref 0), (1, .int a1), (2, .int a2), (3, .int a3)] ⟨rfl, rfl, rfl, rfl, trivial⟩ ?_
  show gG 7 zB_147 (mzBlk zB_147 0) [(0, .ref 0), (1, .int a1), (2, .int a2), (3, .int a3)] [] H 0 0 _
  refine g_iload_n rfl ?_
  refine g_invti rfl rfl rfl (s_149 a1 H hI hJ) (fun v171 H169 r170 => ?_)
  obtain ⟨rfl, bv171, p172⟩ := r170
  refine g_if_eq (fun c173 => ?_) (fun c173 => ?_)
  · refine g_iconst (by decide) (fun v174 kv174 => ?_)
    exact g_iret ⟨_, rfl, hI, hJ, (ek1_1.symm.trans ek1_1), mkfr⟩
  · refine g_iload_n rfl ?_
    refine g_invti rfl rfl rfl (s_150 a2 H hI hJ) (fun v177 H175 r176 => ?_)
    obtain ⟨rfl, bv177, p178⟩ := r176
    refine g_if_eq (fun c179 => ?_) (fun c179 => ?_)
    · refine g_iconst (by decide) (fun v180 kv180 => ?_)
      exact g_iret ⟨_, rfl, hI, hJ, (ek1_1.symm.trans ek1_1), mkfr⟩
    · refine g_aload_n rfl ?_
      refine g_gfr hI sx_0 rfl ?_
      refine g_iload_n rfl ?_
      refine g_invvi hI sx_3 rfl rfl rfl rfl (s_11 3 zBo_3 a3 H hI hJ) (fun v183 H181 r182 => ?_)
      obtain ⟨rfl, bv183, p184⟩ := r182
      refine g_if_ne (fun c185 => ?_) (fun c185 => ?_)
      · refine g_aload_n rfl ?_
        refine g_gfr hI sx_0 rfl ?_
        refine g_iload_n rfl ?_
        refine g_invva hI sx_24 rfl rfl rfl rfl (v_55 a2 H hI hJ) (fun H186 r187 => ?_)
        obtain ⟨hIH186, hJH186, w188, m189⟩ := r187
        have e190 : k1_1 = fZ H186 1 1 := ek1_1.trans w188.symm
        have m191 : kp54 H H186 := kp54_t mkfr m189
        refine g_astore (l' := [(0, .ref 0), (1, .int a1), (2, .int a2), (3, .int a3), (4, .ref 28)]) rfl rfl ?_
        refine g_aload rfl ?_
        refine g_iload_n rfl ?_
        refine g_invvi hIH186 sx_28 rfl rfl rfl rfl (s_91 28 zWo_28 a1 (by omega) H186 hIH186 hJH186) (fun v194 H192 r193 => ?_)
        obtain rfl := r193
        refine g_istore (l' := [(0, .ref 0), (1, .int a1), (2, .int a2), (3, .int a3), (4, .ref 28), (5, .int v194)]) rfl rfl ?_
        refine g_iload rfl ?_
        refine g_if_lt (fun c195 => ?_) (fun c195 => ?_)
        · refine g_iload rfl ?_
          refine g_if_ge (fun c196 => ?_) (fun c196 => ?_)
          · exfalso; omega
          · refine g_iload rfl ?_
            refine g_goto ?_
            exact g_iret ⟨_, rfl, hIH186, hJH186, (e190.symm.trans ek1_1), m191⟩
        · refine g_iload rfl ?_
          refine g_iload_n rfl ?_
          refine g_if2_ne (fun c197 => ?_) (fun c197 => ?_)
          · refine g_aload_n rfl ?_
            refine g_gfr hIH186 sx_0 rfl ?_
            refine g_iload rfl ?_
            refine g_iload_n rfl ?_
            refine g_invvi hIH186 sx_3 rfl rfl rfl rfl (s_17 3 zBo_3 v194 a3 H186 hIH186 hJH186) (fun v200 H198 r199 => ?_)
            obtain rfl := r199
            refine g_istore (l' := [(0, .ref 0), (1, .int a1), (2, .int a2), (3, .int a3), (4, .ref 28), (5, .int v194), (6, .int v200)]) rfl rfl ?_
            refine g_iload rfl ?_
            refine g_bipush (by decide) (fun v201 kv201 => ?_)
            refine g_if2_ne (fun c202 => ?_) (fun c202 => ?_)
            · refine g_iload_n rfl ?_
              refine g_aload rfl ?_
              refine g_iload_n rfl ?_
              refine g_invvi hIH186 sx_28 rfl rfl rfl rfl (s_92 28 zWo_28 a1 (by omega) H186 hIH186 hJH186) (fun v205 H203 r204 => ?_)
              obtain rfl := r204
              refine g_iload rfl ?_
              refine g_iadd' (fun v206 ov206 => ?_)
              refine g_max rfl (fun v207 av207 bv207 dv207 => ?_)
              refine g_nop ?_
              exact g_iret ⟨_, rfl, hIH186, hJH186, (e190.symm.trans ek1_1), m191⟩
            · refine g_bipush (by decide) (fun v208 kv208 => ?_)
              refine g_goto ?_
              exact g_iret ⟨_, rfl, hIH186, hJH186, (e190.symm.trans ek1_1), m191⟩
          · refine g_nop ?_
            refine g_iload rfl ?_
            refine g_if_ge (fun c209 => ?_) (fun c209 => ?_)
            · refine g_iload_n rfl ?_
              refine g_nop ?_
              exact g_iret ⟨_, rfl, hIH186, hJH186, (e190.symm.trans ek1_1), m191⟩
            · exfalso; omega
      · refine g_nop ?_
        refine g_iconst (by decide) (fun v210 kv210 => ?_)
        exact g_iret ⟨_, rfl, hI, hJ, (ek1_1.symm.trans ek1_1), mkfr⟩
set_option maxRecDepth 4000 in
set_option maxHeartbeats 4000000 in
/-- X0.findOne -/
theorem y_2 (H : mzH) (hI : gI SX H) (hJ : JX H) : gCall 2 [.ref 54] H (gRv (fun H' => gI SX H' ∧ JX H' ∧ fZ H' 1 1 = fZ H 1 1 ∧ fZ H' 54 6 = fZ H 54 6 ∧ fZ H' 54 9 = fZ H 54 9 ∧ fZ H' 54 10 = fZ H 54 10 ∧ fZ H' 54 11 = fZ H 54 11)) := by
  obtain ⟨k1_1, ek1_1⟩ : ∃ z, z = fZ H 1 1 := ⟨_, rfl⟩
  have ik1_1 : k1_1.toInt = (fZ H 1 1).toInt := by rw [← ek1_1]
  have bk1_1 : 0 ≤ k1_1.toInt ∧ k1_1.toInt ≤ 900 := by rw [ek1_1]; exact fZ_of hI sx_1 rfl
  obtain ⟨k54_6, ek54_6⟩ : ∃ z, z = fZ H 54 6 := ⟨_, rfl⟩
  have ik54_6 : k54_6.toInt = (fZ H 54 6).toInt := by rw [← ek54_6]
  have bk54_6 : 0 ≤ k54_6.toInt ∧ k54_6.toInt ≤ 1 := by rw [ek54_6]; exact fZ_of hI sx_54 rfl
  obtain ⟨k54_9, ek54_9⟩ : ∃ z, z = fZ H 54 9 := ⟨_, rfl⟩
  have ik54_9 : k54_9.toInt = (fZ H 54 9).toInt := by rw [← ek54_9]
  obtain ⟨k54_10, ek54_10⟩ : ∃ z, z = fZ H 54 10 := ⟨_, rfl⟩
  have ik54_10 : k54_10.toInt = (fZ H 54 10).toInt := by rw [← ek54_10]
  obtain ⟨k54_11, ek54_11⟩ : ∃ z, z = fZ H 54 11 := ⟨_, rfl⟩
  have ik54_11 : k54_11.toInt = (fZ H 54 11).toInt := by rw [← ek54_11]
  refine gG_call [(0, .ref 54)] ⟨rfl, trivial⟩ ?_
  show gG 5 zB_2 (mzBlk zB_2 0) [(0, .ref 54)] [] H 0 0 _
  refine g_aload_n rfl ?_
  refine g_gfi hI sx_54 rfl (fun v1699 ev1699 lv1699 uv1699 => ?_)
  refine g_if_eq (fun c1700 => ?_) (fun c1700 => ?_)
  · refine g_aload_n rfl ?_
    refine g_iconst (by decide) (fun v1701 kv1701 => ?_)
    refine g_pfz hI sx_54 rfl (by omega) (fun H1702 eH1702 hIH1702 => ?_)
    have hJH1702 : JX H1702 := JX_sF eH1702 hJ
    have e1703 : k1_1 = fZ H1702 1 1 := by rw [eH1702, fZ_sF_nc (by omega)]; exact ek1_1
    have e1704 : k54_6 = fZ H1702 54 6 := by rw [eH1702, fZ_sF_ne (by decide)]; exact ek54_6
    have e1705 : k54_9 = fZ H1702 54 9 := by rw [eH1702, fZ_sF_ne (by decide)]; exact ek54_9
    have e1706 : k54_10 = fZ H1702 54 10 := by rw [eH1702, fZ_sF_ne (by decide)]; exact ek54_10
    have e1707 : k54_11 = fZ H1702 54 11 := by rw [eH1702, fZ_sF_ne (by decide)]; exact ek54_11
    refine g_aload_n rfl ?_
    refine g_bipush (by decide) (fun v1708 kv1708 => ?_)
    refine g_pfi hIH1702 sx_54 rfl (gz_any _) (fun H1709 eH1709 hIH1709 => ?_)
    have hJH1709 : JX H1709 := JX_sF eH1709 hJH1702
    have e1710 : k1_1 = fZ H1709 1 1 := by rw [eH1709, fZ_sF_nc (by omega)]; exact e1703
    have e1711 : k54_6 = fZ H1709 54 6 := by rw [eH1709, fZ_sF_ne (by decide)]; exact e1704
    have e1712 : k54_9 = fZ H1709 54 9 := by rw [eH1709, fZ_sF_ne (by decide)]; exact e1705
    have e1713 : k54_10 = fZ H1709 54 10 := by rw [eH1709, fZ_sF_ne (by decide)]; exact e1706
    have e1714 : k54_11 = fZ H1709 54 11 := by rw [eH1709, fZ_sF_ne (by decide)]; exact e1707
    refine g_aload_n rfl ?_
    refine g_gfr hIH1709 sx_54 rfl ?_
    refine g_invvv hIH1709 sx_55 rfl rfl rfl rfl (v_83 55 zWo_55 H1709 hIH1709 hJH1709) (fun H1715 r1716 => ?_)
    obtain ⟨hIH1715, hJH1715, w1717, m1718⟩ := r1716
    have e1719 : k1_1 = fZ H1715 1 1 := e1710.trans w1717.symm
    have e1720 : k54_6 = fZ H1715 54 6 := e1711.trans (m1718 6).symm
    have e1721 : k54_9 = fZ H1715 54 9 := e1712.trans (m1718 9).symm
    have e1722 : k54_10 = fZ H1715 54 10 := e1713.trans (m1718 10).symm
    have e1723 : k54_11 = fZ H1715 54 11 := e1714.trans (m1718 11).symm
    refine g_iconst (by decide) (fun v1724 kv1724 => ?_)
    refine g_istore_n (l' := [(0, .ref 54), (1, .int v1724)]) rfl rfl ?_
    refine g_iconst (by decide) (fun v1725 kv1725 => ?_)
    refine g_istore_n (l' := [(0, .ref 54), (1, .int v1724), (2, .int v1725)]) rfl rfl ?_
    refine g_nop ?_
    have L1734 : ∀ (N : Nat) (v1726 : Int32) (v1727 : Int32) (H1728 : mzH), gI SX H1728 → JX H1728 → k1_1 = fZ H1728 1 1 → k54_6 = fZ H1728 54 6 → k54_9 = fZ H1728 54 9 → k54_10 = fZ H1728 54 10 → k54_11 = fZ H1728 54 11 → (0 ≤ v1727.toInt ∧ v1727.toInt ≤ 60) → (60 - v1727.toInt).toNat < N → gG 5 zB_2 (mzBlk zB_2 2) [(0, .ref 54), (1, .int v1726), (2, .int v1727)] [] H1728 0 0 (gRv (fun H' => gI SX H' ∧ JX H' ∧ fZ H' 1 1 = fZ H 1 1 ∧ fZ H' 54 6 = fZ H 54 6 ∧ fZ H' 54 9 = fZ H 54 9 ∧ fZ H' 54 10 = fZ H 54 10 ∧ fZ H' 54 11 = fZ H 54 11)) := by
      intro N
      induction N with
      | zero => intro v1726 v1727 H1728 hIH1728 hJH1728 e1729 e1730 e1731 e1732 e1733 bv1727 hmL1734; exact absurd hmL1734 (Nat.not_lt_zero _)
      | succ N ihL1734 =>
        intro v1726 v1727 H1728 hIH1728 hJH1728 e1729 e1730 e1731 e1732 e1733 bv1727 hmL1734
        refine g_iload_n rfl ?_
        refine g_aload_n rfl ?_
        refine g_gfr hIH1728 sx_54 rfl ?_
        refine g_gfi hIH1728 sx_25 rfl (fun v1735 ev1735 lv1735 uv1735 => ?_)
        refine g_if2_ge (fun c1736 => ?_) (fun c1736 => ?_)
        · exact g_ret ⟨rfl, hIH1728, hJH1728, (e1729.symm.trans ek1_1), (e1730.symm.trans ek54_6), (e1731.symm.trans ek54_9), (e1732.symm.trans ek54_10), (e1733.symm.trans ek54_11)⟩
        · refine g_aload_n rfl ?_
          refine g_gfr hIH1728 sx_54 rfl ?_
          refine g_aload_n rfl ?_
          refine g_gfr hIH1728 sx_54 rfl ?_
          refine g_invvv hIH1728 sx_69 rfl rfl rfl rfl (v_84 69 zWo_69 55 zWo_55 H1728 hIH1728 hJH1728) (fun H1737 r1738 => ?_)
          obtain ⟨hIH1737, hJH1737, w1739, m1740⟩ := r1738
          have e1741 : k1_1 = fZ H1737 1 1 := e1729.trans w1739.symm
          have e1742 : k54_6 = fZ H1737 54 6 := e1730.trans (m1740 6).symm
          have e1743 : k54_9 = fZ H1737 54 9 := e1731.trans (m1740 9).symm
          have e1744 : k54_10 = fZ H1737 54 10 := e1732.trans (m1740 10).symm
          have e1745 : k54_11 = fZ H1737 54 11 := e1733.trans (m1740 11).symm
          refine g_aload_n rfl ?_
          refine g_gfr hIH1737 sx_54 rfl ?_
          refine g_gfr hIH1737 sx_25 rfl ?_
          refine g_iload_n rfl ?_
          refine g_iaload hIH1737 sx_27 rfl (by omega) (fun v1746 ev1746 lv1746 uv1746 => ?_)
          refine g_istore_n (l' := [(0, .ref 54), (1, .int v1726), (2, .int v1727), (3, .int v1746)]) rfl rfl ?_
          refine g_aload_n rfl ?_
          refine g_iload_n rfl ?_
          refine g_iload_n rfl ?_
          refine g_aload_n rfl ?_
          refine g_gfi hIH1737 sx_54 rfl (fun v1747 ev1747 lv1747 uv1747 => ?_)
          refine g_invvi hIH1737 sx_54 rfl rfl rfl rfl (v_6 v1727 (by omega) v1726 v1747 H1737 hIH1737 hJH1737) (fun v1750 H1748 r1749 => ?_)
          obtain ⟨hIH1748, hJH1748, w1751, m1752⟩ := r1749
          have e1753 : k1_1 = fZ H1748 1 1 := e1741.trans w1751.symm
          have e1754 : k54_6 = fZ H1748 54 6 := e1742.trans (m1752 6).symm
          have e1755 : k54_9 = fZ H1748 54 9 := e1743.trans (m1752 9).symm
          have e1756 : k54_10 = fZ H1748 54 10 := e1744.trans (m1752 10).symm
          have e1757 : k54_11 = fZ H1748 54 11 := e1745.trans (m1752 11).symm
          refine g_istore (l' := [(0, .ref 54), (1, .int v1726), (2, .int v1727), (3, .int v1746), (4, .int v1750)]) rfl rfl ?_
          refine g_iload rfl ?_
          refine g_aload_n rfl ?_
          refine g_gfi hIH1748 sx_54 rfl (fun v1758 ev1758 lv1758 uv1758 => ?_)
          refine g_if2_lt (fun c1759 => ?_) (fun c1759 => ?_)
          · refine g_aload_n rfl ?_
            refine g_iload_n rfl ?_
            refine g_pfi hIH1748 sx_54 rfl (gz_any _) (fun H1760 eH1760 hIH1760 => ?_)
            have hJH1760 : JX H1760 := JX_sF eH1760 hJH1748
            have e1761 : k1_1 = fZ H1760 1 1 := by rw [eH1760, fZ_sF_nc (by omega)]; exact e1753
            have e1762 : k54_6 = fZ H1760 54 6 := by rw [eH1760, fZ_sF_ne (by decide)]; exact e1754
            have e1763 : k54_9 = fZ H1760 54 9 := by rw [eH1760, fZ_sF_ne (by decide)]; exact e1755
            have e1764 : k54_10 = fZ H1760 54 10 := by rw [eH1760, fZ_sF_ne (by decide)]; exact e1756
            have e1765 : k54_11 = fZ H1760 54 11 := by rw [eH1760, fZ_sF_ne (by decide)]; exact e1757
            refine g_aload_n rfl ?_
            refine g_iload rfl ?_
            refine g_pfi hIH1760 sx_54 rfl (gz_any _) (fun H1766 eH1766 hIH1766 => ?_)
            have hJH1766 : JX H1766 := JX_sF eH1766 hJH1760
            have e1767 : k1_1 = fZ H1766 1 1 := by rw [eH1766, fZ_sF_nc (by omega)]; exact e1761
            have e1768 : k54_6 = fZ H1766 54 6 := by rw [eH1766, fZ_sF_ne (by decide)]; exact e1762
            have e1769 : k54_9 = fZ H1766 54 9 := by rw [eH1766, fZ_sF_ne (by decide)]; exact e1763
            have e1770 : k54_10 = fZ H1766 54 10 := by rw [eH1766, fZ_sF_ne (by decide)]; exact e1764
            have e1771 : k54_11 = fZ H1766 54 11 := by rw [eH1766, fZ_sF_ne (by decide)]; exact e1765
            refine g_nop ?_
            refine g_iload_n rfl ?_
            refine g_aload_n rfl ?_
            refine g_iload_n rfl ?_
            refine g_aload_n rfl ?_
            refine g_gfr hIH1766 sx_54 rfl ?_
            refine g_invvi hIH1766 sx_54 rfl rfl rfl rfl (v_7 v1727 (by omega) 55 zWo_55 H1766 hIH1766 hJH1766) (fun v1774 H1772 r1773 => ?_)
            obtain ⟨hIH1772, hJH1772, bv1774, w1775, m1776⟩ := r1773
            have e1777 : k1_1 = fZ H1772 1 1 := e1767.trans w1775.symm
            have e1778 : k54_6 = fZ H1772 54 6 := e1768.trans (m1776 6).symm
            have e1779 : k54_9 = fZ H1772 54 9 := e1769.trans (m1776 9).symm
            have e1780 : k54_10 = fZ H1772 54 10 := e1770.trans (m1776 10).symm
            have e1781 : k54_11 = fZ H1772 54 11 := e1771.trans (m1776 11).symm
            refine g_iadd' (fun v1782 ov1782 => ?_)
            refine g_istore_n (l' := [(0, .ref 54), (1, .int v1782), (2, .int v1727), (3, .int v1746), (4, .int v1750)]) rfl rfl ?_
            refine g_iinc (l' := (fun v1783 => [(0, .ref 54), (1, .int v1782), (2, .int v1783), (3, .int v1746), (4, .int v1750)])) rfl rfl (by decide) (by omega) (fun _ => rfl) (fun v1783 ev1783 => ?_)
            refine g_goto ?_
            refine gG_pick [0, 1, 2] (l' := [(0, .ref 54), (1, .int v1782), (2, .int v1783)]) rfl ?_
            exact ihL1734 v1782 v1783 H1772 hIH1772 hJH1772 e1777 e1778 e1779 e1780 e1781 (by omega) (by omega)
          · refine g_iload rfl ?_
            refine g_aload_n rfl ?_
            refine g_gfi hIH1748 sx_54 rfl (fun v1784 ev1784 lv1784 uv1784 => ?_)
            refine g_if2_ne (fun c1785 => ?_) (fun c1785 => ?_)
            · refine g_iload_n rfl ?_
              refine g_aload_n rfl ?_
              refine g_iload_n rfl ?_
              refine g_aload_n rfl ?_
              refine g_gfr hIH1748 sx_54 rfl ?_
              refine g_invvi hIH1748 sx_54 rfl rfl rfl rfl (v_7 v1727 (by omega) 55 zWo_55 H1748 hIH1748 hJH1748) (fun v1788 H1786 r1787 => ?_)
              obtain ⟨hIH1786, hJH1786, bv1788, w1789, m1790⟩ := r1787
              have e1791 : k1_1 = fZ H1786 1 1 := e1753.trans w1789.symm
              have e1792 : k54_6 = fZ H1786 54 6 := e1754.trans (m1790 6).symm
              have e1793 : k54_9 = fZ H1786 54 9 := e1755.trans (m1790 9).symm
              have e1794 : k54_10 = fZ H1786 54 10 := e1756.trans (m1790 10).symm
              have e1795 : k54_11 = fZ H1786 54 11 := e1757.trans (m1790 11).symm
              refine g_iadd' (fun v1796 ov1796 => ?_)
              refine g_istore_n (l' := [(0, .ref 54), (1, .int v1796), (2, .int v1727), (3, .int v1746), (4, .int v1750)]) rfl rfl ?_
              refine g_iinc (l' := (fun v1797 => [(0, .ref 54), (1, .int v1796), (2, .int v1797), (3, .int v1746), (4, .int v1750)])) rfl rfl (by decide) (by omega) (fun _ => rfl) (fun v1797 ev1797 => ?_)
              refine g_goto ?_
              refine gG_pick [0, 1, 2] (l' := [(0, .ref 54), (1, .int v1796), (2, .int v1797)]) rfl ?_
              exact ihL1734 v1796 v1797 H1786 hIH1786 hJH1786 e1791 e1792 e1793 e1794 e1795 (by omega) (by omega)
            · refine g_iload_n rfl ?_
              refine g_aload_n rfl ?_
              refine g_gfi hIH1748 sx_54 rfl (fun v1798 ev1798 lv1798 uv1798 => ?_)
              refine g_if2_ge (fun c1799 => ?_) (fun c1799 => ?_)
              · refine g_iload_n rfl ?_
                refine g_aload_n rfl ?_
                refine g_iload_n rfl ?_
                refine g_aload_n rfl ?_
                refine g_gfr hIH1748 sx_54 rfl ?_
                refine g_invvi hIH1748 sx_54 rfl rfl rfl rfl (v_7 v1727 (by omega) 55 zWo_55 H1748 hIH1748 hJH1748) (fun v1802 H1800 r1801 => ?_)
                obtain ⟨hIH1800, hJH1800, bv1802, w1803, m1804⟩ := r1801
                have e1805 : k1_1 = fZ H1800 1 1 := e1753.trans w1803.symm
                have e1806 : k54_6 = fZ H1800 54 6 := e1754.trans (m1804 6).symm
                have e1807 : k54_9 = fZ H1800 54 9 := e1755.trans (m1804 9).symm
                have e1808 : k54_10 = fZ H1800 54 10 := e1756.trans (m1804 10).symm
                have e1809 : k54_11 = fZ H1800 54 11 := e1757.trans (m1804 11).symm
                refine g_iadd' (fun v1810 ov1810 => ?_)
                refine g_istore_n (l' := [(0, .ref 54), (1, .int v1810), (2, .int v1727), (3, .int v1746), (4, .int v1750)]) rfl rfl ?_
                refine g_iinc (l' := (fun v1811 => [(0, .ref 54), (1, .int v1810), (2, .int v1811), (3, .int v1746), (4, .int v1750)])) rfl rfl (by decide) (by omega) (fun _ => rfl) (fun v1811 ev1811 => ?_)
                refine g_goto ?_
                refine gG_pick [0, 1, 2] (l' := [(0, .ref 54), (1, .int v1810), (2, .int v1811)]) rfl ?_
                exact ihL1734 v1810 v1811 H1800 hIH1800 hJH1800 e1805 e1806 e1807 e1808 e1809 (by omega) (by omega)
              · refine g_nop ?_
                refine g_aload_n rfl ?_
                refine g_iload_n rfl ?_
                refine g_pfi hIH1748 sx_54 rfl (gz_any _) (fun H1812 eH1812 hIH1812 => ?_)
                have hJH1812 : JX H1812 := JX_sF eH1812 hJH1748
                have e1813 : k1_1 = fZ H1812 1 1 := by rw [eH1812, fZ_sF_nc (by omega)]; exact e1753
                have e1814 : k54_6 = fZ H1812 54 6 := by rw [eH1812, fZ_sF_ne (by decide)]; exact e1754
                have e1815 : k54_9 = fZ H1812 54 9 := by rw [eH1812, fZ_sF_ne (by decide)]; exact e1755
                have e1816 : k54_10 = fZ H1812 54 10 := by rw [eH1812, fZ_sF_ne (by decide)]; exact e1756
                have e1817 : k54_11 = fZ H1812 54 11 := by rw [eH1812, fZ_sF_ne (by decide)]; exact e1757
                refine g_aload_n rfl ?_
                refine g_iload rfl ?_
                refine g_pfi hIH1812 sx_54 rfl (gz_any _) (fun H1818 eH1818 hIH1818 => ?_)
                have hJH1818 : JX H1818 := JX_sF eH1818 hJH1812
                have e1819 : k1_1 = fZ H1818 1 1 := by rw [eH1818, fZ_sF_nc (by omega)]; exact e1813
                have e1820 : k54_6 = fZ H1818 54 6 := by rw [eH1818, fZ_sF_ne (by decide)]; exact e1814
                have e1821 : k54_9 = fZ H1818 54 9 := by rw [eH1818, fZ_sF_ne (by decide)]; exact e1815
                have e1822 : k54_10 = fZ H1818 54 10 := by rw [eH1818, fZ_sF_ne (by decide)]; exact e1816
                have e1823 : k54_11 = fZ H1818 54 11 := by rw [eH1818, fZ_sF_ne (by decide)]; exact e1817
                refine g_nop ?_
                refine g_iload_n rfl ?_
                refine g_aload_n rfl ?_
                refine g_iload_n rfl ?_
                refine g_aload_n rfl ?_
                refine g_gfr hIH1818 sx_54 rfl ?_
                refine g_invvi hIH1818 sx_54 rfl rfl rfl rfl (v_7 v1727 (by omega) 55 zWo_55 H1818 hIH1818 hJH1818) (fun v1826 H1824 r1825 => ?_)
                obtain ⟨hIH1824, hJH1824, bv1826, w1827, m1828⟩ := r1825
                have e1829 : k1_1 = fZ H1824 1 1 := e1819.trans w1827.symm
                have e1830 : k54_6 = fZ H1824 54 6 := e1820.trans (m1828 6).symm
                have e1831 : k54_9 = fZ H1824 54 9 := e1821.trans (m1828 9).symm
                have e1832 : k54_10 = fZ H1824 54 10 := e1822.trans (m1828 10).symm
                have e1833 : k54_11 = fZ H1824 54 11 := e1823.trans (m1828 11).symm
                refine g_iadd' (fun v1834 ov1834 => ?_)
                refine g_istore_n (l' := [(0, .ref 54), (1, .int v1834), (2, .int v1727), (3, .int v1746), (4, .int v1750)]) rfl rfl ?_
                refine g_iinc (l' := (fun v1835 => [(0, .ref 54), (1, .int v1834), (2, .int v1835), (3, .int v1746), (4, .int v1750)])) rfl rfl (by decide) (by omega) (fun _ => rfl) (fun v1835 ev1835 => ?_)
                refine g_goto ?_
                refine gG_pick [0, 1, 2] (l' := [(0, .ref 54), (1, .int v1834), (2, .int v1835)]) rfl ?_
                exact ihL1734 v1834 v1835 H1824 hIH1824 hJH1824 e1829 e1830 e1831 e1832 e1833 (by omega) (by omega)
    exact L1734 _ v1724 v1725 H1715 hIH1715 hJH1715 e1719 e1720 e1721 e1722 e1723 (by omega) (Nat.lt_succ_self _)
  · exact g_ret ⟨rfl, hI, hJ, (ek1_1.symm.trans ek1_1), (ek54_6.symm.trans ek54_6), (ek54_9.symm.trans ek54_9), (ek54_10.symm.trans ek54_10), (ek54_11.symm.trans ek54_11)⟩
set_option maxRecDepth 4000 in
set_option maxHeartbeats 4000000 in
/-- X9.blamed -/
theorem y_129 (a1 : Int32) (H : mzH) (hI : gI SX H) (hJ : JX H) : gCall 129 [.ref 0, .int a1] H (gRi (fun v H' => gI SX H' ∧ JX H' ∧ fZ H' 1 1 = fZ H 1 1 ∧ fZ H' 54 6 = fZ H 54 6 ∧ fZ H' 54 9 = fZ H 54 9 ∧ fZ H' 54 10 = fZ H 54 10 ∧ fZ H' 54 11 = fZ H 54 11)) := by
  obtain ⟨k1_1, ek1_1⟩ : ∃ z, z = fZ H 1 1 := ⟨_, rfl⟩
  have ik1_1 : k1_1.toInt = (fZ H 1 1).toInt := by rw [← ek1_1]
  have bk1_1 : 0 ≤ k1_1.toInt ∧ k1_1.toInt ≤ 900 := by rw [ek1_1]; exact fZ_of hI sx_1 rfl
  obtain ⟨k54_6, ek54_6⟩ : ∃ z, z = fZ H 54 6 := ⟨_, rfl⟩
  have ik54_6 : k54_6.toInt = (fZ H 54 6).toInt := by rw [← ek54_6]
  have bk54_6 : 0 ≤ k54_6.toInt ∧ k54_6.toInt ≤ 1 := by rw [ek54_6]; exact fZ_of hI sx_54 rfl
  obtain ⟨k54_9, ek54_9⟩ : ∃ z, z = fZ H 54 9 := ⟨_, rfl⟩
  have ik54_9 : k54_9.toInt = (fZ H 54 9).toInt := by rw [← ek54_9]
  obtain ⟨k54_10, ek54_10⟩ : ∃ z, z = fZ H 54 10 := ⟨_, rfl⟩
  have ik54_10 : k54_10.toInt = (fZ H 54 10).toInt := by rw [← ek54_10]
  obtain ⟨k54_11, ek54_11⟩ : ∃ z, z = fZ H 54 11 := ⟨_, rfl⟩
  have ik54_11 : k54_11.toInt = (fZ H 54 11).toInt := by rw [← ek54_11]
  refine gG_call [(0, .ref 0), (1, .int a1)] ⟨rfl, rfl, trivial⟩ ?_
  show gG 2 zB_129 (mzBlk zB_129 0) [(0, .ref 0), (1, .int a1)] [] H 0 0 _
  refine g_iload_n rfl ?_
  refine g_if_lt (fun c93 => ?_) (fun c93 => ?_)
  · refine g_iconst (by decide) (fun v94 kv94 => ?_)
    exact g_iret ⟨_, rfl, hI, hJ, (ek1_1.symm.trans ek1_1), (ek54_6.symm.trans ek54_6), (ek54_9.symm.trans ek54_9), (ek54_10.symm.trans ek54_10), (ek54_11.symm.trans ek54_11)⟩
  · refine g_iload_n rfl ?_
    refine g_iconst (by decide) (fun v95 kv95 => ?_)
    refine g_if2_le (fun c96 => ?_) (fun c96 => ?_)
    · refine g_aload_n rfl ?_
      refine g_gfr hI sx_0 rfl ?_
      refine g_gfi hI sx_3 rfl (fun v97 ev97 lv97 uv97 => ?_)
      refine g_if_ne (fun c98 => ?_) (fun c98 => ?_)
      · refine g_aload_n rfl ?_
        refine g_gfr hI sx_0 rfl ?_
        refine g_invvv hI sx_54 rfl rfl rfl rfl (y_2 H hI hJ) (fun H99 r100 => ?_)
        obtain ⟨hIH99, hJH99, w101, w102, w103, w104, w105⟩ := r100
        have e106 : k1_1 = fZ H99 1 1 := ek1_1.trans w101.symm
        have e107 : k54_6 = fZ H99 54 6 := ek54_6.trans w102.symm
        have e108 : k54_9 = fZ H99 54 9 := ek54_9.trans w103.symm
        have e109 : k54_10 = fZ H99 54 10 := ek54_10.trans w104.symm
        have e110 : k54_11 = fZ H99 54 11 := ek54_11.trans w105.symm
        refine g_iload_n rfl ?_
        refine g_if_ne (fun c111 => ?_) (fun c111 => ?_)
        · refine g_aload_n rfl ?_
          refine g_gfr hIH99 sx_0 rfl ?_
          refine g_gfi hIH99 sx_54 rfl (fun v112 ev112 lv112 uv112 => ?_)
          refine g_nop ?_
          exact g_iret ⟨_, rfl, hIH99, hJH99, (e106.symm.trans ek1_1), (e107.symm.trans ek54_6), (e108.symm.trans ek54_9), (e109.symm.trans ek54_10), (e110.symm.trans ek54_11)⟩
        · refine g_aload_n rfl ?_
          refine g_gfr hIH99 sx_0 rfl ?_
          refine g_gfi hIH99 sx_54 rfl (fun v113 ev113 lv113 uv113 => ?_)
          refine g_goto ?_
          exact g_iret ⟨_, rfl, hIH99, hJH99, (e106.symm.trans ek1_1), (e107.symm.trans ek54_6), (e108.symm.trans ek54_9), (e109.symm.trans ek54_10), (e110.symm.trans ek54_11)⟩
      · refine g_bipush (by decide) (fun v114 kv114 => ?_)
        exact g_iret ⟨_, rfl, hI, hJ, (ek1_1.symm.trans ek1_1), (ek54_6.symm.trans ek54_6), (ek54_9.symm.trans ek54_9), (ek54_10.symm.trans ek54_10), (ek54_11.symm.trans ek54_11)⟩
    · refine g_nop ?_
      refine g_iconst (by decide) (fun v115 kv115 => ?_)
      exact g_iret ⟨_, rfl, hI, hJ, (ek1_1.symm.trans ek1_1), (ek54_6.symm.trans ek54_6), (ek54_9.symm.trans ek54_9), (ek54_10.symm.trans ek54_10), (ek54_11.symm.trans ek54_11)⟩
