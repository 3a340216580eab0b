/-! THE STORY -/
def s0X : pS := psM (fun _ => -1) (fun _ => -5) (fun _ => -1) (fun _ => 0) (fun _ => -5) (fun _ => 0) (fun _ => 0) (fun _ => 0) (fun _ => 0)
/-- the worlds behind the first messages, in an order -/
def fC (wy : Int → Int → Int) (U C : Int) (ro : Nat → Nat → Int) (od : Nat → Nat) (hr : Nat → Int) : Nat → pS
  | 0 => s0X
  | p + 1 => lkS (fC wy U C ro od hr p) wy U C (ro (od p) 1) (ro (od p) 2).toNat (ro (od p) 3) (ro (od p) 4) (hr (od p))
def roX (H : mzH) : Nat → Nat → Int := fun k i => (aZ H (6 + i) k).toInt
def odX (H : mzH) : Nat → Nat := fun p => (aZ H 27 p).toInt.toNat
def hoX (H : mzH) : Nat → Int := fun k => (aZ H 26 k).toInt
def fX (H : mzH) : Nat → pS := fC (wyX H) (fZ H 3 10).toInt (fZ H 3 11).toInt (roX H) (odX H) (hoX H)
def hrX (H : mzH) (q : Nat) : Int := hoX H (odX H q)
/-- p is the first spot behind an hour -/
def stX (H : mzH) (h : Int) (p : Nat) : Prop := p ≤ (fZ H 25 2).toInt.toNat ∧ (∀ q, q < p → hrX H q ≤ h) ∧ (p = (fZ H 25 2).toInt.toNat ∨ h < hrX H p)
/-- the messages' rows are in order, and so are the worlds -/
def gdX (H : mzH) : Prop := (∀ q : Nat, q < (fZ H 25 2).toInt.toNat → (0 ≤ (aZ H 26 (aZ H 27 q).toInt.toNat).toInt ∧ (aZ H 26 (aZ H 27 q).toInt.toNat).toInt ≤ 999) ∧ (0 ≤ (aZ H 7 (aZ H 27 q).toInt.toNat).toInt ∧ (aZ H 7 (aZ H 27 q).toInt.toNat).toInt ≤ 10)) ∧ ∀ q : Nat, q ≤ (fZ H 25 2).toInt.toNat → laB (fX H q) ∧ kdB (fX H q)
theorem kpX_W {w : Nat} {H B : mzH} (hw : 28 ≤ w ∧ (w + 6 < 42 ∨ 42 < w)) (h : kpN (w + 1) (w + 6) H B) : kpX H B := fun c hc => h c (by omega)
theorem wyX_kp {H A : mzH} (fr : kpX H A) : wyX A = wyX H := by
  funext a b
  unfold wyX
  rw [(fr 3 (by decide)).1, (fr 5 (by decide)).2]
theorem wd_cl {H1 H2 H3 H4 H5 H6 : mzH} {w : Nat} {x1 x2 x3 x4 x5 x6 : Int32} (g1 : ∀ k, k < 40 → aZ H1 (w + 1) k = x1) (m2 : ∀ {b k}, b ≠ w + 2 → aZ H2 b k = aZ H1 b k) (g2 : ∀ k, k < 40 → aZ H2 (w + 2) k = x2) (m3 : ∀ {b k}, b ≠ w + 3 → aZ H3 b k = aZ H2 b k) (g3 : ∀ k, k < 40 → aZ H3 (w + 3) k = x3) (m4 : ∀ {b k}, b ≠ w + 4 → aZ H4 b k = aZ H3 b k) (g4 : ∀ k, k < 40 → aZ H4 (w + 4) k = x4) (m5 : ∀ {b k}, b ≠ w + 5 → aZ H5 b k = aZ H4 b k) (g5 : ∀ k, k < 40 → aZ H5 (w + 5) k = x5) (m6 : ∀ {b k}, b ≠ w + 6 → aZ H6 b k = aZ H5 b k) (g6 : ∀ k, k < 40 → aZ H6 (w + 6) k = x6) (k1 : x1.toInt = -1) (k2 : x2.toInt = -5) (k3 : x3.toInt = -1) (k4 : x4.toInt = 0) (k5 : x5.toInt = -5) (k6 : x6.toInt = 0) : wdX H6 w s0X := fun n hn => by
  refine ⟨?_, ?_, ?_, ?_, ?_, ?_, (show ((0 : Int) ≤ 0 ∧ (0 : Int) ≤ 1) ∧ ((0 : Int) ≤ 0 ∧ (0 : Int) ≤ 1) ∧ ((0 : Int) ≤ 0 ∧ (0 : Int) ≤ 1) ∧ ((0 : Int) ≤ 0 ∧ (0 : Int) ≤ 1) by decide)⟩
  · rw [m6 (by omega), m5 (by omega), m4 (by omega), m3 (by omega), m2 (by omega), g1 n hn, k1]; rfl
  · rw [m6 (by omega), m5 (by omega), m4 (by omega), m3 (by omega), g2 n hn, k2]; rfl
  · rw [m6 (by omega), m5 (by omega), m4 (by omega), g3 n hn, k3]; rfl
  · rw [m6 (by omega), m5 (by omega), g4 n hn, k4]; rfl
  · rw [m6 (by omega), g5 n hn, k5]; rfl
  · rw [g6 n hn, k6]; rfl
set_option maxRecDepth 4000 in
set_option maxHeartbeats 4000000 in
/-- X8.clear -/
theorem w_83  (w : Nat) (hw : zWo w) (H : mzH) (hI : gI SX H) (hJ : JX H) : gCall 83 [.ref w] H (gRv (fun H' => gI SX H' ∧ JX H' ∧ fZ H' 1 1 = fZ H 1 1 ∧ kpN (w + 1) (w + 6) H H' ∧ wdX H' w s0X)) := by
  obtain ⟨hwr, hw0, hw1, hw2, hw3, hw4, hw5, hw6⟩ := id hw
  obtain ⟨k1_1, ek1_1⟩ : ∃ z, z = fZ H 1 1 := ⟨_, rfl⟩
  have ik1_1 : k1_1.toInt = (fZ H 1 1).toInt := by rw [← ek1_1]
  have bk1_1 : 0 ≤ k1_1.toInt ∧ k1_1.toInt ≤ 900 := by rw [ek1_1]; exact fZ_of hI sx_1 rfl
  have mkfr : kpN (w + 1) (w + 6) H H := kpN_r
  refine gG_call [(0, .ref w)] ⟨rfl, trivial⟩ ?_
  show gG 1 zB_83 (mzBlk zB_83 0) [(0, .ref w)] [] H 0 0 _
  refine g_aload_n rfl ?_
  refine g_gfr hI hw0 rfl ?_
  refine g_iconst (by decide) (fun v145 kv145 => ?_)
  refine g_invtv rfl rfl rfl (s_fill (w + 1) hw1 (by decide) v145 (by omega) H hI) (fun H146 r147 => ?_)
  obtain ⟨hIH146, fH146, mH146, gH146⟩ := r147
  have hJH146 : JX H146 := JX_of hJ (fun k => ⟨mH146 (by omega), mH146 (by omega), mH146 (by omega), mH146 (by omega)⟩)
  have e149 : k1_1 = fZ H146 1 1 := ek1_1.trans (fH146 _ _).symm
  have m150 : kpN (w + 1) (w + 6) H H146 := kpN_t mkfr (fun _ _ => ⟨fH146 _, fun _ => mH146 (by omega)⟩)
  refine g_aload_n rfl ?_
  refine g_gfr hIH146 hw0 rfl ?_
  refine g_bipush (by decide) (fun v151 kv151 => ?_)
  refine g_invtv rfl rfl rfl (s_fill (w + 2) hw2 (by decide) v151 (by omega) H146 hIH146) (fun H152 r153 => ?_)
  obtain ⟨hIH152, fH152, mH152, gH152⟩ := r153
  have hJH152 : JX H152 := JX_of hJH146 (fun k => ⟨mH152 (by omega), mH152 (by omega), mH152 (by omega), mH152 (by omega)⟩)
  have e155 : k1_1 = fZ H152 1 1 := e149.trans (fH152 _ _).symm
  have m156 : kpN (w + 1) (w + 6) H H152 := kpN_t m150 (fun _ _ => ⟨fH152 _, fun _ => mH152 (by omega)⟩)
  refine g_aload_n rfl ?_
  refine g_gfr hIH152 hw0 rfl ?_
  refine g_iconst (by decide) (fun v157 kv157 => ?_)
  refine g_invtv rfl rfl rfl (s_fill (w + 3) hw3 (by decide) v157 (by omega) H152 hIH152) (fun H158 r159 => ?_)
  obtain ⟨hIH158, fH158, mH158, gH158⟩ := r159
  have hJH158 : JX H158 := JX_of hJH152 (fun k => ⟨mH158 (by omega), mH158 (by omega), mH158 (by omega), mH158 (by omega)⟩)
  have e161 : k1_1 = fZ H158 1 1 := e155.trans (fH158 _ _).symm
  have m162 : kpN (w + 1) (w + 6) H H158 := kpN_t m156 (fun _ _ => ⟨fH158 _, fun _ => mH158 (by omega)⟩)
  refine g_aload_n rfl ?_
  refine g_gfr hIH158 hw0 rfl ?_
  refine g_iconst (by decide) (fun v163 kv163 => ?_)
  refine g_invtv rfl rfl rfl (s_fill (w + 4) hw4 (by decide) v163 (by omega) H158 hIH158) (fun H164 r165 => ?_)
  obtain ⟨hIH164, fH164, mH164, gH164⟩ := r165
  have hJH164 : JX H164 := JX_of hJH158 (fun k => ⟨mH164 (by omega), mH164 (by omega), mH164 (by omega), mH164 (by omega)⟩)
  have e167 : k1_1 = fZ H164 1 1 := e161.trans (fH164 _ _).symm
  have m168 : kpN (w + 1) (w + 6) H H164 := kpN_t m162 (fun _ _ => ⟨fH164 _, fun _ => mH164 (by omega)⟩)
  refine g_aload_n rfl ?_
  refine g_gfr hIH164 hw0 rfl ?_
  refine g_bipush (by decide) (fun v169 kv169 => ?_)
  refine g_invtv rfl rfl rfl (s_fill (w + 5) hw5 (by decide) v169 (by omega) H164 hIH164) (fun H170 r171 => ?_)
  obtain ⟨hIH170, fH170, mH170, gH170⟩ := r171
  have hJH170 : JX H170 := JX_of hJH164 (fun k => ⟨mH170 (by omega), mH170 (by omega), mH170 (by omega), mH170 (by omega)⟩)
  have e173 : k1_1 = fZ H170 1 1 := e167.trans (fH170 _ _).symm
  have m174 : kpN (w + 1) (w + 6) H H170 := kpN_t m168 (fun _ _ => ⟨fH170 _, fun _ => mH170 (by omega)⟩)
  refine g_aload_n rfl ?_
  refine g_gfr hIH170 hw0 rfl ?_
  refine g_iconst (by decide) (fun v175 kv175 => ?_)
  refine g_invtv rfl rfl rfl (s_fill (w + 6) hw6 (by decide) v175 (by omega) H170 hIH170) (fun H176 r177 => ?_)
  obtain ⟨hIH176, fH176, mH176, gH176⟩ := r177
  have hJH176 : JX H176 := JX_of hJH170 (fun k => ⟨mH176 (by omega), mH176 (by omega), mH176 (by omega), mH176 (by omega)⟩)
  have e179 : k1_1 = fZ H176 1 1 := e173.trans (fH176 _ _).symm
  have m180 : kpN (w + 1) (w + 6) H H176 := kpN_t m174 (fun _ _ => ⟨fH176 _, fun _ => mH176 (by omega)⟩)
  exact g_ret ⟨rfl, hIH176, hJH176, (e179.symm.trans ek1_1), m180, (wd_cl gH146 mH152 gH152 mH158 gH158 mH164 gH164 mH170 gH170 mH176 gH176 (by omega) (by omega) (by omega) (by omega) (by omega) (by omega))⟩
set_option maxRecDepth 4000 in
set_option maxHeartbeats 4000000 in
/-- X2.hourAt -/
theorem w_27  (c : Nat) (hc : zCo c) (a1 : Int32) (ha1 : 0 ≤ a1.toInt ∧ a1.toInt ≤ 59) (H : mzH) (hI : gI SX H) (hJ : JX H) : gCall 27 [.ref c, .int a1] H (gRi (fun v H' => H = H' ∧ v.toInt = (aZ H (c + 1) (aZ H (c + 2) a1.toInt.toNat).toInt.toNat).toInt)) := by
  obtain ⟨hcr, hc0, hc1, hc2⟩ := id hc
  refine gG_call [(0, .ref c), (1, .int a1)] ⟨rfl, rfl, trivial⟩ ?_
  show gG 2 zB_27 (mzBlk zB_27 0) [(0, .ref c), (1, .int a1)] [] H 0 0 _
  refine g_aload_n rfl ?_
  refine g_gfr hI hc0 rfl ?_
  refine g_aload_n rfl ?_
  refine g_gfr hI hc0 rfl ?_
  refine g_iload_n rfl ?_
  refine g_iaload hI hc2 rfl (by omega) (fun v9 ev9 lv9 uv9 => ?_)
  refine g_iaload hI hc1 rfl (by omega) (fun v10 ev10 lv10 uv10 => ?_)
  exact g_iret ⟨_, rfl, rfl, (by rw [ev10, ev9])⟩
