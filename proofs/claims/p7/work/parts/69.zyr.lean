/-! THE REFERENCE'S message -/
theorem hM_kp {H B : mzH} (k : kpM H B) : hM B = hM H := by
  funext q
  unfold hM
  rw [k.1 2 (by decide)]
def orF (H : mzH) (k v : Int) : Prop := (0 ≤ v ∧ v < 60) ∧ (aZ H 19 v.toNat).toInt = k ∧ ∀ j : Nat, j < v.toNat → ¬ (aZ H 19 j).toInt = k
def mgM (H : mzH) (k w v : Int) : Prop := (w < 4 ∧ v = (aZ H 2 (69 + 5 * k.toNat + w.toNat)).toInt) ∨ (w = 4 ∧ ∃ A : mzH, tkW H A ∧ ∃ G : mzH, clR (rgM G) (mdM G) ∧ ∃ x : Nat, x < cnM A ∧ odM A x = k.toNat ∧ v = rvM A G x) ∨ (w = 5 ∧ ∃ A : mzH, tkW H A ∧ 0 ≤ v ∧ v.toNat < cnM A ∧ odM A v.toNat = k.toNat) ∨ (w = 6 ∧ ((v = 1 ∧ lS (hM H) k.toNat k.toNat = true) ∨ (v = 0 ∧ lS (hM H) k.toNat k.toNat = false)))
theorem mm_0 {H : mzH} {k w v : Int} (e : w < 4) (h : v = (aZ H 2 (69 + 5 * k.toNat + w.toNat)).toInt) : mgM H k w v := Or.inl ⟨e, h⟩
theorem od_ex {H A : mzH} {k : Int} (t : tkW H A) (hk : 0 ≤ k ∧ k < (aZ H 2 2).toInt) : ∃ x : Nat, x < cnM A ∧ odM A x = k.toNat := od_mem t.2.1 (by omega) (by
  rw [show inM A k.toNat = 1 from (t.2.2 k.toNat (by omega)).2]
  decide)
theorem mm_4 {H A G B : mzH} {k w v : Int} (e : w = 4) (hk : 0 ≤ k ∧ k < (aZ H 2 2).toInt) (t : tkW H A) (c : clR (rgM G) (mdM G)) (wy : ∀ x : Nat, x < cnM A → (aZ B 20 (odM A x)).toInt = rvM A G x) (h : v = (aZ B 20 k.toNat).toInt) : mgM H k w v := by
  obtain ⟨x, hx, ex⟩ := od_ex t hk
  exact Or.inr (Or.inl ⟨e, A, t, G, c, x, hx, ex, by rw [h, ← ex, wy x hx]⟩)
theorem mm_5 {H A B : mzH} {k w v : Int} (e : w = 5) (hk : 0 ≤ k ∧ k < (aZ H 2 2).toInt) (t : tkW H A) (oi : odI B A (aZ A 2 2).toInt.toNat) (h : orF B k v) : mgM H k w v := by
  obtain ⟨x, hx, ex⟩ := od_ex t hk
  obtain ⟨h1, h2, h3⟩ := h
  have zx : (aZ B 19 x).toInt = (odM A x : Int) := oi.2 x hx
  have le : v.toNat ≤ x := Nat.le_of_not_lt (fun y => h3 x y (by omega))
  have zv : (aZ B 19 v.toNat).toInt = (odM A v.toNat : Int) := oi.2 v.toNat (Nat.lt_of_le_of_lt le hx)
  exact Or.inr (Or.inr (Or.inl ⟨e, A, t, h1.1, by omega, by omega⟩))
theorem mm_6 {H : mzH} {k w v : Int} (e : w = 6) (h : (v = 1 ∧ lS (hM H) k.toNat k.toNat = true) ∨ (v = 0 ∧ lS (hM H) k.toNat k.toNat = false)) : mgM H k w v := Or.inr (Or.inr (Or.inr ⟨e, h⟩))
set_option maxRecDepth 4000 in
theorem r_204 (a1 : Int32) (ha1 : 0 ≤ a1.toInt ∧ a1.toInt ≤ 59) (H : mzH) (hI : gI SM H) (hJ : JN H) (hp0 : ∃ p : Nat, p < 60 ∧ (aZ H 19 p).toInt = a1.toInt) : gCall 204 [.ref 0, .int a1] H (gRi (fun v H' => H = H' ∧ orF H a1.toInt v.toInt)) := by
  obtain ⟨p, hp, hpe⟩ := hp0
  refine gG_call [(0, .ref 0), (1, .int a1)] ⟨rfl, rfl, trivial⟩ ?_
  show gG 3 zB_204 (mzBlk zB_204 0) [(0, .ref 0), (1, .int a1)] [] H 0 0 _
  refine g_iconst (by decide) (fun v1 kv1 => ?_)
  refine g_istore_n (l' := [(0, .ref 0), (1, .int a1), (2, .int v1)]) rfl rfl ?_
  refine g_nop ?_
  have L : ∀ (N : Nat) (v2 : Int32), (0 ≤ v2.toInt ∧ v2.toInt ≤ p) → (∀ j : Nat, j < v2.toInt.toNat → ¬ (aZ H 19 j).toInt = a1.toInt) → (p - v2.toInt).toNat < N → gG 3 zB_204 (mzBlk zB_204 1) [(0, .ref 0), (1, .int a1), (2, .int v2)] [] H 0 0 (gRi (fun v H' => H = H' ∧ orF H a1.toInt v.toInt)) := by
    intro N
    induction N with
    | zero => intro v2 _ _ hm; exact absurd hm (Nat.not_lt_zero _)
    | succ N ih =>
      intro v2 b2 hq hm
      refine g_aload_n rfl ?_
      refine g_gfr hI sm_0 rfl ?_
      refine g_iload_n rfl ?_
      refine g_iaload hI sm_19 rfl (by omega) (fun v3 ev3 lv3 uv3 => ?_)
      have y3 : v3.toInt = (aZ H 19 v2.toInt.toNat).toInt := by rw [ev3]
      refine g_iload_n rfl ?_
      refine g_if2_eq (fun c => ?_) (fun c => ?_)
      · refine g_iload_n rfl ?_
        exact g_iret ⟨_, rfl, rfl, by omega, by omega, hq⟩
      · have hne : ¬ v2.toInt = p := fun h => c (by rw [ev3, show v2.toInt.toNat = p by omega]; exact hpe)
        refine g_iinc (l' := (fun v4 => [(0, .ref 0), (1, .int a1), (2, .int v4)])) rfl rfl (by decide) (by omega) (fun _ => rfl) (fun v4 ev4 => ?_)
        refine g_goto ?_
        exact ih v4 (by omega) (fun j hj => by
          if e : j = v2.toInt.toNat then
            rw [e]
            omega
          else exact hq j (by omega)) (by omega)
  exact L _ v1 (by omega) (fun j hj => by omega) (Nat.lt_succ_self _)
set_option maxRecDepth 4000 in
set_option maxHeartbeats 4000000 in
/-- M.isLate -/
theorem r_205 (a1 : Int32) (ha1 : 0 ≤ a1.toInt ∧ a1.toInt ≤ 59) (H : mzH) (hI : gI SM H) (hJ : JN H) : gCall 205 [.ref 0, .int a1] H (gRi (fun v H' => H = H' ∧ (0 ≤ v.toInt ∧ v.toInt ≤ 1) ∧ ((v.toInt = 1 ∧ lS (hM H) a1.toInt.toNat a1.toInt.toNat = true) ∨ (v.toInt = 0 ∧ lS (hM H) a1.toInt.toNat a1.toInt.toNat = false)))) := by
  refine gG_call [(0, .ref 0), (1, .int a1)] ⟨rfl, rfl, trivial⟩ ?_
  show gG 3 zB_205 (mzBlk zB_205 0) [(0, .ref 0), (1, .int a1)] [] H 0 0 _
  refine g_iconst (by decide) (fun v226 kv226 => ?_)
  refine g_istore_n (l' := [(0, .ref 0), (1, .int a1), (2, .int v226)]) rfl rfl ?_
  refine g_nop ?_
  have L228 : ∀ (N : Nat) (v227 : Int32), (0 ≤ v227.toInt ∧ v227.toInt ≤ 59) → lS (hM H) a1.toInt.toNat v227.toInt.toNat = false → v227.toInt ≤ a1.toInt → (59 - v227.toInt).toNat < N → gG 3 zB_205 (mzBlk zB_205 1) [(0, .ref 0), (1, .int a1), (2, .int v227)] [] H 0 0 (gRi (fun v H' => H = H' ∧ (0 ≤ v.toInt ∧ v.toInt ≤ 1) ∧ ((v.toInt = 1 ∧ lS (hM H) a1.toInt.toNat a1.toInt.toNat = true) ∨ (v.toInt = 0 ∧ lS (hM H) a1.toInt.toNat a1.toInt.toNat = false)))) := by
    intro N
    induction N with
    | zero => intro v227 bv227 q1 q2 hmL228; exact absurd hmL228 (Nat.not_lt_zero _)
    | succ N ihL228 =>
      intro v227 bv227 q1 q2 hmL228
      refine g_iload_n rfl ?_
      refine g_iload_n rfl ?_
      refine g_if2_ge (fun c229 => ?_) (fun c229 => ?_)
      · refine g_iconst (by decide) (fun v230 kv230 => ?_)
        exact g_zret (by omega) ⟨_, rfl, rfl, (by omega), (Or.inr ⟨by omega, ls_end q1 (by omega)⟩)⟩
      · refine g_aload_n rfl ?_
        refine g_iload_n rfl ?_
        refine g_iconst (by decide) (fun v231 kv231 => ?_)
        refine g_invvi hI sm_0 rfl rfl rfl rfl (s_182 v227 (by omega) v231 (by omega) H hI hJ) (fun v234 H232 r233 => ?_)
        obtain ⟨rfl, p235⟩ := r233
        have yv234 : v234.toInt = (aZ H 2 (69 + 5 * v227.toInt.toNat)).toInt := by rw [p235, show (69 + 5 * v227.toInt + v231.toInt).toNat = 69 + 5 * v227.toInt.toNat by omega]
        refine g_aload_n rfl ?_
        refine g_iload_n rfl ?_
        refine g_iconst (by decide) (fun v236 kv236 => ?_)
        refine g_invvi hI sm_0 rfl rfl rfl rfl (s_182 a1 (by omega) v236 (by omega) H hI hJ) (fun v239 H237 r238 => ?_)
        obtain ⟨rfl, p240⟩ := r238
        have yv239 : v239.toInt = (aZ H 2 (69 + 5 * a1.toInt.toNat)).toInt := by rw [p240, show (69 + 5 * a1.toInt + v236.toInt).toNat = 69 + 5 * a1.toInt.toNat by omega]
        refine g_if2_le (fun c241 => ?_) (fun c241 => ?_)
        · refine g_iinc (l' := (fun v242 => [(0, .ref 0), (1, .int a1), (2, .int v242)])) rfl rfl (by decide) (by omega) (fun _ => rfl) (fun v242 ev242 => ?_)
          refine g_goto ?_
          exact ihL228 v242 (by omega) (ls_no q1 (by omega) (by unfold hM; omega)) (by omega) (by omega)
        · refine g_iconst (by decide) (fun v243 kv243 => ?_)
          exact g_zret (by omega) ⟨_, rfl, rfl, (by omega), (Or.inl ⟨by omega, ls_yes (j := v227.toInt.toNat) (by omega) (by unfold hM; omega)⟩)⟩
  exact L228 _ v226 (by omega) (ls_0 (by omega)) (by omega) (Nat.lt_succ_self _)
set_option maxRecDepth 4000 in
set_option maxHeartbeats 4000000 in
/-- M.message -/
theorem r_203 (a1 : Int32) (a2 : Int32) (H : mzH) (hI : gI SM H) (hJ : JN H) (hp0 : ((∀ A, tkW H A → gdM A))) : gCall 203 [.ref 0, .int a1, .int a2] H (gRi (fun v H' => gI SM H' ∧ JN H' ∧ fZ H' 0 2 = fZ H 0 2 ∧ kpM H H' ∧ (((fZ H' 0 0).toInt = 1 ∧ ¬ (0 ≤ a1.toInt ∧ a1.toInt < (aZ H 2 2).toInt)) ∨ ((fZ H' 0 0).toInt = 2 ∧ (0 ≤ a1.toInt ∧ a1.toInt < (aZ H 2 2).toInt) ∧ ¬ (0 ≤ a2.toInt ∧ a2.toInt ≤ 6)) ∨ ((fZ H' 0 0).toInt = 0 ∧ (0 ≤ a1.toInt ∧ a1.toInt < (aZ H 2 2).toInt) ∧ (0 ≤ a2.toInt ∧ a2.toInt ≤ 6) ∧ mgM H a1.toInt a2.toInt v.toInt)))) := by
  obtain ⟨k0_2, ek0_2⟩ : ∃ z, z = fZ H 0 2 := ⟨_, rfl⟩
  have ik0_2 : k0_2.toInt = (fZ H 0 2).toInt := by rw [← ek0_2]
  have bk0_2 : 0 ≤ k0_2.toInt ∧ k0_2.toInt ≤ 900 := by rw [ek0_2]; exact fZ_of hI sm_0 rfl
  have mkfr : kpM H H := kpM_r
  refine gG_call [(0, .ref 0), (1, .int a1), (2, .int a2)] ⟨rfl, rfl, rfl, trivial⟩ ?_
  show gG 3 zB_203 (mzBlk zB_203 0) [(0, .ref 0), (1, .int a1), (2, .int a2)] [] H 0 0 _
  refine g_aload_n rfl ?_
  refine g_iconst (by decide) (fun v293 kv293 => ?_)
  refine g_pfi hI sm_0 rfl (gz_any _) (fun H294 eH294 hIH294 => ?_)
  have hJH294 : JN H294 := JN_sF eH294 hJ
  have e295 : k0_2 = fZ H294 0 2 := by rw [eH294, fZ_sF_ne (by decide)]; exact ek0_2
  have e296 : v293 = fZ H294 0 0 := by rw [eH294, fZ_sF_eq hI sm_0 rfl]
  have m297 : kpM H H294 := kpM_F mkfr eH294 (by omega)
  have ie296 : v293.toInt = (fZ H294 0 0).toInt := by rw [← e296]
  refine g_iload_n rfl ?_
  refine g_if_lt (fun c298 => ?_) (fun c298 => ?_)
  · have hm3 := congrArg Int32.toInt (m297.1 2 (by decide) 2)
    refine g_aload_n rfl ?_
    refine g_iconst (by decide) (fun v299 kv299 => ?_)
    refine g_pfi hIH294 sm_0 rfl (gz_any _) (fun H300 eH300 hIH300 => ?_)
    have hJH300 : JN H300 := JN_sF eH300 hJH294
    have e301 : k0_2 = fZ H300 0 2 := by rw [eH300, fZ_sF_ne (by decide)]; exact e295
    have e302 : v299 = fZ H300 0 0 := by rw [eH300, fZ_sF_eq hIH294 sm_0 rfl]
    have m303 : kpM H H300 := kpM_F m297 eH300 (by omega)
    have ie302 : v299.toInt = (fZ H300 0 0).toInt := by rw [← e302]
    refine g_iconst (by decide) (fun v304 kv304 => ?_)
    exact g_iret ⟨_, rfl, hIH300, hJH300, (e301.symm.trans ek0_2), m303, (Or.inl ⟨by omega, by omega⟩)⟩
  · refine g_iload_n rfl ?_
    refine g_aload_n rfl ?_
    refine g_invvi hIH294 sm_0 rfl rfl rfl rfl (s_181 H294 hIH294 hJH294) (fun v307 H305 r306 => ?_)
    obtain ⟨rfl, bv307, p308⟩ := r306
    refine g_if2_lt (fun c309 => ?_) (fun c309 => ?_)
    · have hm3 := congrArg Int32.toInt (m297.1 2 (by decide) 2)
      refine g_aload_n rfl ?_
      refine g_invvv hIH294 sm_0 rfl rfl rfl rfl (r_200 H294 hIH294 hJH294 (fun A t => hp0 A (tk_kp m297 t))) (fun H310 r311 => ?_)
      obtain ⟨hIH310, hJH310, w312, w313, m314, m315, p316, p317⟩ := r311
      have e318 : k0_2 = fZ H310 0 2 := e295.trans w312.symm
      have e319 : v293 = fZ H310 0 0 := e296.trans w313.symm
      have m320 : kpM H H310 := kpM_t m297 m315
      have ie319 : v293.toInt = (fZ H310 0 0).toInt := by rw [← e319]
      obtain ⟨A321, tA321, G322, cG322, wdp323, wyp323, oip323⟩ := p317
      have uA321 : tkW H A321 := tk_kp m297 tA321
      have hm2 := congrArg Int32.toInt (m320.1 2 (by decide) 2)
      refine g_iload_n rfl ?_
      refine g_sw (by decide) (fun c324 => ?_) ⟨fun c324 => ?_, fun c324 => ?_, fun c324 => ?_, fun c324 => ?_, fun c324 => ?_, fun c324 => ?_, fun c324 => ?_, trivial⟩
      · refine g_aload_n rfl ?_
        refine g_iconst (by decide) (fun v325 kv325 => ?_)
        refine g_pfi hIH310 sm_0 rfl (gz_any _) (fun H326 eH326 hIH326 => ?_)
        have hJH326 : JM H326 := JM_sF eH326 hJH310
        have e327 : k0_2 = fZ H326 0 2 := by rw [eH326, fZ_sF_ne (by decide)]; exact e318
        have e328 : v325 = fZ H326 0 0 := by rw [eH326, fZ_sF_eq hIH310 sm_0 rfl]
        have m329 : kpM H H326 := kpM_F m320 eH326 (by omega)
        have xm330 : (∀ i, aZ H326 20 i = aZ H310 20 i) := fun i => (by rw [eH326, aZ_sF] : aZ H326 20 i = aZ H310 20 i).trans ((fun _ => rfl) i)
        have ie328 : v325.toInt = (fZ H326 0 0).toInt := by rw [← e328]
        refine g_iconst (by decide) (fun v331 kv331 => ?_)
        exact g_iret ⟨_, rfl, hIH326, (JM_n hJH326), (e327.symm.trans ek0_2), m329, (Or.inr (Or.inl ⟨by omega, by omega, by omega⟩))⟩
      · refine g_aload_n rfl ?_
        refine g_iload_n rfl ?_
        refine g_iload_n rfl ?_
        refine g_invvi hIH310 sm_0 rfl rfl rfl rfl (s_182 a1 (by omega) a2 (by omega) H310 hIH310 (JM_n hJH310)) (fun v334 H332 r333 => ?_)
        obtain ⟨rfl, p335⟩ := r333
        have yv334 : v334.toInt = (aZ H 2 (69 + 5 * a1.toInt.toNat + a2.toInt.toNat)).toInt := by rw [p335, m320.1 2 (by decide), show (69 + 5 * a1.toInt + a2.toInt).toNat = 69 + 5 * a1.toInt.toNat + a2.toInt.toNat by omega]
        exact g_iret ⟨_, rfl, hIH310, (JM_n hJH310), (e318.symm.trans ek0_2), m320, (Or.inr (Or.inr ⟨by omega, by omega, by omega, (mm_0 (by omega) yv334)⟩))⟩
      · refine g_aload_n rfl ?_
        refine g_iload_n rfl ?_
        refine g_iload_n rfl ?_
        refine g_invvi hIH310 sm_0 rfl rfl rfl rfl (s_182 a1 (by omega) a2 (by omega) H310 hIH310 (JM_n hJH310)) (fun v338 H336 r337 => ?_)
        obtain ⟨rfl, p339⟩ := r337
        have yv338 : v338.toInt = (aZ H 2 (69 + 5 * a1.toInt.toNat + a2.toInt.toNat)).toInt := by rw [p339, m320.1 2 (by decide), show (69 + 5 * a1.toInt + a2.toInt).toNat = 69 + 5 * a1.toInt.toNat + a2.toInt.toNat by omega]
        exact g_iret ⟨_, rfl, hIH310, (JM_n hJH310), (e318.symm.trans ek0_2), m320, (Or.inr (Or.inr ⟨by omega, by omega, by omega, (mm_0 (by omega) yv338)⟩))⟩
      · refine g_aload_n rfl ?_
        refine g_iload_n rfl ?_
        refine g_iload_n rfl ?_
        refine g_invvi hIH310 sm_0 rfl rfl rfl rfl (s_182 a1 (by omega) a2 (by omega) H310 hIH310 (JM_n hJH310)) (fun v342 H340 r341 => ?_)
        obtain ⟨rfl, p343⟩ := r341
        have yv342 : v342.toInt = (aZ H 2 (69 + 5 * a1.toInt.toNat + a2.toInt.toNat)).toInt := by rw [p343, m320.1 2 (by decide), show (69 + 5 * a1.toInt + a2.toInt).toNat = 69 + 5 * a1.toInt.toNat + a2.toInt.toNat by omega]
        exact g_iret ⟨_, rfl, hIH310, (JM_n hJH310), (e318.symm.trans ek0_2), m320, (Or.inr (Or.inr ⟨by omega, by omega, by omega, (mm_0 (by omega) yv342)⟩))⟩
      · refine g_aload_n rfl ?_
        refine g_iload_n rfl ?_
        refine g_iload_n rfl ?_
        refine g_invvi hIH310 sm_0 rfl rfl rfl rfl (s_182 a1 (by omega) a2 (by omega) H310 hIH310 (JM_n hJH310)) (fun v346 H344 r345 => ?_)
        obtain ⟨rfl, p347⟩ := r345
        have yv346 : v346.toInt = (aZ H 2 (69 + 5 * a1.toInt.toNat + a2.toInt.toNat)).toInt := by rw [p347, m320.1 2 (by decide), show (69 + 5 * a1.toInt + a2.toInt).toNat = 69 + 5 * a1.toInt.toNat + a2.toInt.toNat by omega]
        exact g_iret ⟨_, rfl, hIH310, (JM_n hJH310), (e318.symm.trans ek0_2), m320, (Or.inr (Or.inr ⟨by omega, by omega, by omega, (mm_0 (by omega) yv346)⟩))⟩
      · refine g_aload_n rfl ?_
        refine g_gfr hIH310 sm_0 rfl ?_
        refine g_iload_n rfl ?_
        refine g_iaload hIH310 sm_20 rfl (by omega) (fun v348 ev348 lv348 uv348 => ?_)
        have yv348 : v348.toInt = (aZ H310 20 a1.toInt.toNat).toInt := by rw [ev348]
        exact g_iret ⟨_, rfl, hIH310, (JM_n hJH310), (e318.symm.trans ek0_2), m320, (Or.inr (Or.inr ⟨by omega, by omega, by omega, (mm_4 (by omega) (by omega) uA321 cG322 wyp323 yv348)⟩))⟩
      · refine g_aload_n rfl ?_
        refine g_iload_n rfl ?_
        refine g_invvi hIH310 sm_0 rfl rfl rfl rfl (r_204 a1 (by omega) H310 hIH310 (JM_n hJH310) (by have z := p316 a1.toInt.toNat (by omega); rw [show ((a1.toInt.toNat : Nat) : Int) = a1.toInt by omega] at z; exact z)) (fun v351 H349 r350 => ?_)
        obtain ⟨rfl, p352⟩ := r350
        exact g_iret ⟨_, rfl, hIH310, (JM_n hJH310), (e318.symm.trans ek0_2), m320, (Or.inr (Or.inr ⟨by omega, by omega, by omega, (mm_5 (by omega) (by omega) uA321 oip323 p352)⟩))⟩
      · refine g_aload_n rfl ?_
        refine g_iload_n rfl ?_
        refine g_invvi hIH310 sm_0 rfl rfl rfl rfl (r_205 a1 (by omega) H310 hIH310 (JM_n hJH310)) (fun v355 H353 r354 => ?_)
        obtain ⟨rfl, bv355, p356⟩ := r354
        refine g_if_eq (fun c357 => ?_) (fun c357 => ?_)
        · refine g_iconst (by decide) (fun v358 kv358 => ?_)
          refine g_nop ?_
          exact g_iret ⟨_, rfl, hIH310, (JM_n hJH310), (e318.symm.trans ek0_2), m320, (Or.inr (Or.inr ⟨by omega, by omega, by omega, (mm_6 (by omega) (by have z := p356; rw [hM_kp m320] at z; rcases z with z | z <;> first | exact Or.inl ⟨by omega, z.2⟩ | exact Or.inr ⟨by omega, z.2⟩ | (exfalso; omega)))⟩))⟩
        · refine g_iconst (by decide) (fun v359 kv359 => ?_)
          refine g_goto ?_
          exact g_iret ⟨_, rfl, hIH310, (JM_n hJH310), (e318.symm.trans ek0_2), m320, (Or.inr (Or.inr ⟨by omega, by omega, by omega, (mm_6 (by omega) (by have z := p356; rw [hM_kp m320] at z; rcases z with z | z <;> first | exact Or.inl ⟨by omega, z.2⟩ | exact Or.inr ⟨by omega, z.2⟩ | (exfalso; omega)))⟩))⟩
    · refine g_nop ?_
      have hm3 := congrArg Int32.toInt (m297.1 2 (by decide) 2)
      refine g_aload_n rfl ?_
      refine g_iconst (by decide) (fun v360 kv360 => ?_)
      refine g_pfi hIH294 sm_0 rfl (gz_any _) (fun H361 eH361 hIH361 => ?_)
      have hJH361 : JN H361 := JN_sF eH361 hJH294
      have e362 : k0_2 = fZ H361 0 2 := by rw [eH361, fZ_sF_ne (by decide)]; exact e295
      have e363 : v360 = fZ H361 0 0 := by rw [eH361, fZ_sF_eq hIH294 sm_0 rfl]
      have m364 : kpM H H361 := kpM_F m297 eH361 (by omega)
      have ie363 : v360.toInt = (fZ H361 0 0).toInt := by rw [← e363]
      refine g_iconst (by decide) (fun v365 kv365 => ?_)
      exact g_iret ⟨_, rfl, hIH361, hJH361, (e362.symm.trans ek0_2), m364, (Or.inl ⟨by omega, by omega⟩)⟩
