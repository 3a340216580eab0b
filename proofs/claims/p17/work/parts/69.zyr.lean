/-! THE REFERENCE'S message -/
theorem hM_kp {H B : mzH} (k : kpM H B) : hM B = hM H := by
  funext q
  unfold hM
  rw [k.1 2 (by decide)]
def orF (H : mzH) (k v : Int) : Prop := (0 ≤ v ∧ v < 60) ∧ (aZ H 19 v.toNat).toInt = k ∧ ∀ j : Nat, j < v.toNat → ¬ (aZ H 19 j).toInt = k
def mgM (H : mzH) (k w v : Int) : Prop := (w < 4 ∧ v = (aZ H 2 (69 + 5 * k.toNat + w.toNat)).toInt) ∨ (w = 4 ∧ ∃ A : mzH, tkW H A ∧ ∃ G : mzH, clR (rgM G) (mdM G) ∧ ∃ x : Nat, x < cnM A ∧ odM A x = k.toNat ∧ v = rvM A G x) ∨ (w = 5 ∧ ∃ A : mzH, tkW H A ∧ 0 ≤ v ∧ v.toNat < cnM A ∧ odM A v.toNat = k.toNat) ∨ (w = 6 ∧ ((v = 1 ∧ lS (hM H) k.toNat k.toNat = true) ∨ (v = 0 ∧ lS (hM H) k.toNat k.toNat = false)))
theorem mm_0 {H : mzH} {k w v : Int} (e : w < 4) (h : v = (aZ H 2 (69 + 5 * k.toNat + w.toNat)).toInt) : mgM H k w v := Or.inl ⟨e, h⟩
theorem od_ex {H A : mzH} {k : Int} (t : tkW H A) (hk : 0 ≤ k ∧ k < (aZ H 2 2).toInt) : ∃ x : Nat, x < cnM A ∧ odM A x = k.toNat := od_mem t.2.1 (by omega) (by
  rw [show inM A k.toNat = 1 from (t.2.2 k.toNat (by omega)).2]
  decide)
theorem mm_4 {H A G B : mzH} {k w v : Int} (e : w = 4) (hk : 0 ≤ k ∧ k < (aZ H 2 2).toInt) (t : tkW H A) (c : clR (rgM G) (mdM G)) (wy : ∀ x : Nat, x < cnM A → (aZ B 20 (odM A x)).toInt = rvM A G x) (h : v = (aZ B 20 k.toNat).toInt) : mgM H k w v := by
  obtain ⟨x, hx, ex⟩ := od_ex t hk
  exact Or.inr (Or.inl ⟨e, A, t, G, c, x, hx, ex, by rw [h, ← ex, wy x hx]⟩)
theorem mm_5 {H A B : mzH} {k w v : Int} (e : w = 5) (hk : 0 ≤ k ∧ k < (aZ H 2 2).toInt) (t : tkW H A) (oi : odI B A (aZ A 2 2).toInt.toNat) (h : orF B k v) : mgM H k w v := by
  obtain ⟨x, hx, ex⟩ := od_ex t hk
  obtain ⟨h1, h2, h3⟩ := h
  have zx : (aZ B 19 x).toInt = (odM A x : Int) := oi.2 x hx
  have le : v.toNat ≤ x := Nat.le_of_not_lt (fun y => h3 x y (by omega))
  have zv : (aZ B 19 v.toNat).toInt = (odM A v.toNat : Int) := oi.2 v.toNat (Nat.lt_of_le_of_lt le hx)
  exact Or.inr (Or.inr (Or.inl ⟨e, A, t, h1.1, by omega, by omega⟩))
theorem mm_6 {H : mzH} {k w v : Int} (e : w = 6) (h : (v = 1 ∧ lS (hM H) k.toNat k.toNat = true) ∨ (v = 0 ∧ lS (hM H) k.toNat k.toNat = false)) : mgM H k w v := Or.inr (Or.inr (Or.inr ⟨e, h⟩))
set_option maxRecDepth 4000 in
theorem r_203 (a1 : Int32) (ha1 : 0 ≤ a1.toInt ∧ a1.toInt ≤ 59) (H : mzH) (hI : gI SM H) (hJ : JN H) (hp0 : ∃ p : Nat, p < 60 ∧ (aZ H 19 p).toInt = a1.toInt) : gCall 203 [.ref 0, .int a1] H (gRi (fun v H' => H = H' ∧ orF H a1.toInt v.toInt)) := by
  obtain ⟨p, hp, hpe⟩ := hp0
  refine gG_call [(0, .ref 0), (1, .int a1)] ⟨rfl, rfl, trivial⟩ ?_
  show gG 3 zB_203 (mzBlk zB_203 0) [(0, .ref 0), (1, .int a1)] [] H 0 0 _
  refine g_iconst (by decide) (fun v1 kv1 => ?_)
  refine g_istore_n (l' := [(0, .ref 0), (1, .int a1), (2, .int v1)]) rfl rfl ?_
  refine g_nop ?_
  have L : ∀ (N : Nat) (v2 : Int32), (0 ≤ v2.toInt ∧ v2.toInt ≤ p) → (∀ j : Nat, j < v2.toInt.toNat → ¬ (aZ H 19 j).toInt = a1.toInt) → (p - v2.toInt).toNat < N → gG 3 zB_203 (mzBlk zB_203 1) [(0, .ref 0), (1, .int a1), (2, .int v2)] [] H 0 0 (gRi (fun v H' => H = H' ∧ orF H a1.toInt v.toInt)) := by
    intro N
    induction N with
    | zero => intro v2 _ _ hm; exact absurd hm (Nat.not_lt_zero _)
    | succ N ih =>
      intro v2 b2 hq hm
      refine g_aload_n rfl ?_
      refine g_gfr hI sm_0 rfl ?_
      refine g_iload_n rfl ?_
      refine g_iaload hI sm_19 rfl (by omega) (fun v3 ev3 lv3 uv3 => ?_)
      have y3 : v3.toInt = (aZ H 19 v2.toInt.toNat).toInt := by rw [ev3]
      refine g_iload_n rfl ?_
      refine g_if2_eq (fun c => ?_) (fun c => ?_)
      · refine g_iload_n rfl ?_
        exact g_iret ⟨_, rfl, rfl, by omega, by omega, hq⟩
      · have hne : ¬ v2.toInt = p := fun h => c (by rw [ev3, show v2.toInt.toNat = p by omega]; exact hpe)
        refine g_iinc (l' := (fun v4 => [(0, .ref 0), (1, .int a1), (2, .int v4)])) rfl rfl (by decide) (by omega) (fun _ => rfl) (fun v4 ev4 => ?_)
        refine g_goto ?_
        exact ih v4 (by omega) (fun j hj => by
          if e : j = v2.toInt.toNat then
            rw [e]
            omega
          else exact hq j (by omega)) (by omega)
  exact L _ v1 (by omega) (fun j hj => by omega) (Nat.lt_succ_self _)
set_option maxRecDepth 4000 in
set_option maxHeartbeats 4000000 in
/-- M.isLate -/
theorem r_204 (a1 : Int32) (ha1 : 0 ≤ a1.toInt ∧ a1.toInt ≤ 59) (H : mzH) (hI : gI SM H) (hJ : JN H) : gCall 204 [.ref 0, .int a1] H (gRi (fun v H' => H = H' ∧ (0 ≤ v.toInt ∧ v.toInt ≤ 1) ∧ ((v.toInt = 1 ∧ lS (hM H) a1.toInt.toNat a1.toInt.toNat = true) ∨ (v.toInt = 0 ∧ lS (hM H) a1.toInt.toNat a1.toInt.toNat = false)))) := by
  refine gG_call [(0, .ref 0), (1, .int a1)] ⟨rfl, rfl, trivial⟩ ?_
  show gG 3 zB_204 (mzBlk zB_204 0) [(0, .ref 0), (1, .int a1)] [] H 0 0 _
  refine g_iconst (by decide) (fun v226 kv226 => ?_)
  refine g_istore_n (l' := [(0, .ref 0), (1, .int a1), (2, .int v226)]) rfl rfl ?_
  refine g_nop ?_
  have L228 : ∀ (N : Nat) (v227 : Int32), (0 ≤ v227.toInt ∧ v227.toInt ≤ 59) → lS (hM H) a1.toInt.toNat v227.toInt.toNat = false → v227.toInt ≤ a1.toInt → (59 - v227.toInt).toNat < N → gG 3 zB_204 (mzBlk zB_204 1) [(0, .ref 0), (1, .int a1), (2, .int v227)] [] H 0 0 (gRi (fun v H' => H = H' ∧ (0 ≤ v.toInt ∧ v.toInt ≤ 1) ∧ ((v.toInt = 1 ∧ lS (hM H) a1.toInt.toNat a1.toInt.toNat = true) ∨ (v.toInt = 0 ∧ lS (hM H) a1.toInt.toNat a1.toInt.toNat = false)))) := by
    intro N
    induction N with
    | zero => intro v227 bv227 q1 q2 hmL228; exact absurd hmL228 (Nat.not_lt_zero _)
    | succ N ihL228 =>
      intro v227 bv227 q1 q2 hmL228
      refine g_iload_n rfl ?_
      refine g_iload_n rfl ?_
      refine g_if2_ge (fun c229 => ?_) (fun c229 => ?_)
      · refine g_iconst (by decide) (fun v230 kv230 => ?_)
        exact g_zret (by omega) ⟨_, rfl, rfl, (by omega), (Or.inr ⟨by omega, ls_end q1 (by omega)⟩)⟩
      · refine g_aload_n rfl ?_
        refine g_iload_n rfl ?_
        refine g_iconst (by decide) (fun v231 kv231 => ?_)
        refine g_invvi hI sm_0 rfl rfl rfl rfl (s_181 v227 (by omega) v231 (by omega) H hI hJ) (fun v234 H232 r233 => ?_)
        obtain ⟨rfl, p235⟩ := r233
        have yv234 : v234.toInt = (aZ H 2 (69 + 5 * v227.toInt.toNat)).toInt := by rw [p235, show (69 + 5 * v227.toInt + v231.toInt).toNat = 69 + 5 * v227.toInt.toNat by omega]
        refine g_aload_n rfl ?_
        refine g_iload_n rfl ?_
        refine g_iconst (by decide) (fun v236 kv236 => ?_)
        refine g_invvi hI sm_0 rfl rfl rfl rfl (s_181 a1 (by omega) v236 (by omega) H hI hJ) (fun v239 H237 r238 => ?_)
        obtain ⟨rfl, p240⟩ := r238
        have yv239 : v239.toInt = (aZ H 2 (69 + 5 * a1.toInt.toNat)).toInt := by rw [p240, show (69 + 5 * a1.toInt + v236.toInt).toNat = 69 + 5 * a1.toInt.toNat by omega]
        refine g_if2_le (fun c241 => ?_) (fun c241 => ?_)
        · refine g_iinc (l' := (fun v242 => [(0, .ref 0), (1, .int a1), (2, .int v242)])) rfl rfl (by decide) (by omega) (fun _ => rfl) (fun v242 ev242 => ?_)
          refine g_goto ?_
          exact ihL228 v242 (by omega) (ls_no q1 (by omega) (by unfold hM; omega)) (by omega) (by omega)
        · refine g_iconst (by decide) (fun v243 kv243 => ?_)
          exact g_zret (by omega) ⟨_, rfl, rfl, (by omega), (Or.inl ⟨by omega, ls_yes (j := v227.toInt.toNat) (by omega) (by unfold hM; omega)⟩)⟩
  exact L228 _ v226 (by omega) (ls_0 (by omega)) (by omega) (Nat.lt_succ_self _)
set_option maxRecDepth 4000 in
set_option maxHeartbeats 4000000 in
/-- M.message -/
theorem r_202 (a1 : Int32) (a2 : Int32) (H : mzH) (hI : gI SM H) (hJ : JN H) (hp0 : ((∀ A, tkW H A → gdM A))) : gCall 202 [.ref 0, .int a1, .int a2] H (gRi (fun v H' => gI SM H' ∧ JN H' ∧ fZ H' 0 2 = fZ H 0 2 ∧ kpM H H' ∧ (((fZ H' 0 0).toInt = 1 ∧ ¬ (0 ≤ a1.toInt ∧ a1.toInt < (aZ H 2 2).toInt)) ∨ ((fZ H' 0 0).toInt = 2 ∧ (0 ≤ a1.toInt ∧ a1.toInt < (aZ H 2 2).toInt) ∧ ¬ (0 ≤ a2.toInt ∧ a2.toInt ≤ 6)) ∨ ((fZ H' 0 0).toInt = 0 ∧ (0 ≤ a1.toInt ∧ a1.toInt < (aZ H 2 2).toInt) ∧ (0 ≤ a2.toInt ∧ a2.toInt ≤ 6) ∧ mgM H a1.toInt a2.toInt v.toInt)))) := by
  obtain ⟨k0_2, ek0_2⟩ : ∃ z, z = fZ H 0 2 := ⟨_, rfl⟩
  have ik0_2 : k0_2.toInt = (fZ H 0 2).toInt := by rw [← ek0_2]
  have bk0_2 : 0 ≤ k0_2.toInt ∧ k0_2.toInt ≤ 900 := by rw [ek0_2]; exact fZ_of hI sm_0 rfl
  have mkfr : kpM H H := kpM_r
  refine gG_call [(0, .ref 0), (1, .int a1), (2, .int a2)] ⟨rfl, rfl, rfl, trivial⟩ ?_
  show gG 3 zB_202 (mzBlk zB_202 0) [(0, .ref 0), (1, .int a1), (2, .int a2)] [] H 0 0 _
  refine g_aload_n rfl ?_
  refine g_iconst (by decide) (fun v305 kv305 => ?_)
  refine g_pfi hI sm_0 rfl (gz_any _) (fun H306 eH306 hIH306 => ?_)
  have hJH306 : JN H306 := JN_sF eH306 hJ
  have e307 : k0_2 = fZ H306 0 2 := by rw [eH306, fZ_sF_ne (by decide)]; exact ek0_2
  have e308 : v305 = fZ H306 0 0 := by rw [eH306, fZ_sF_eq hI sm_0 rfl]
  have m309 : kpM H H306 := kpM_F mkfr eH306 (by omega)
  have ie308 : v305.toInt = (fZ H306 0 0).toInt := by rw [← e308]
  refine g_iload_n rfl ?_
  refine g_if_lt (fun c310 => ?_) (fun c310 => ?_)
  · have hm3 := congrArg Int32.toInt (m309.1 2 (by decide) 2)
    refine g_aload_n rfl ?_
    refine g_iconst (by decide) (fun v311 kv311 => ?_)
    refine g_pfi hIH306 sm_0 rfl (gz_any _) (fun H312 eH312 hIH312 => ?_)
    have hJH312 : JN H312 := JN_sF eH312 hJH306
    have e313 : k0_2 = fZ H312 0 2 := by rw [eH312, fZ_sF_ne (by decide)]; exact e307
    have e314 : v311 = fZ H312 0 0 := by rw [eH312, fZ_sF_eq hIH306 sm_0 rfl]
    have m315 : kpM H H312 := kpM_F m309 eH312 (by omega)
    have ie314 : v311.toInt = (fZ H312 0 0).toInt := by rw [← e314]
    refine g_iconst (by decide) (fun v316 kv316 => ?_)
    exact g_iret ⟨_, rfl, hIH312, hJH312, (e313.symm.trans ek0_2), m315, (Or.inl ⟨by omega, by omega⟩)⟩
  · refine g_iload_n rfl ?_
    refine g_aload_n rfl ?_
    refine g_invvi hIH306 sm_0 rfl rfl rfl rfl (s_180 H306 hIH306 hJH306) (fun v319 H317 r318 => ?_)
    obtain ⟨rfl, bv319, p320⟩ := r318
    refine g_if2_lt (fun c321 => ?_) (fun c321 => ?_)
    · have hm3 := congrArg Int32.toInt (m309.1 2 (by decide) 2)
      refine g_aload_n rfl ?_
      refine g_invvv hIH306 sm_0 rfl rfl rfl rfl (r_199 H306 hIH306 hJH306 (fun A t => hp0 A (tk_kp m309 t))) (fun H322 r323 => ?_)
      obtain ⟨hIH322, hJH322, w324, w325, w326, w327, w328, m329, m330, p331, p332⟩ := r323
      have e333 : k0_2 = fZ H322 0 2 := e307.trans w324.symm
      have e334 : v305 = fZ H322 0 0 := e308.trans w325.symm
      have m335 : kpM H H322 := kpM_t m309 m330
      have ie334 : v305.toInt = (fZ H322 0 0).toInt := by rw [← e334]
      obtain ⟨A336, tA336, G337, cG337, wdp338, wyp338, oip338⟩ := p332
      have uA336 : tkW H A336 := tk_kp m309 tA336
      have hm2 := congrArg Int32.toInt (m335.1 2 (by decide) 2)
      refine g_iload_n rfl ?_
      refine g_sw (by decide) (fun c339 => ?_) ⟨fun c339 => ?_, fun c339 => ?_, fun c339 => ?_, fun c339 => ?_, fun c339 => ?_, fun c339 => ?_, fun c339 => ?_, trivial⟩
      · refine g_aload_n rfl ?_
        refine g_iconst (by decide) (fun v340 kv340 => ?_)
        refine g_pfi hIH322 sm_0 rfl (gz_any _) (fun H341 eH341 hIH341 => ?_)
        have hJH341 : JM H341 := JM_sF eH341 hJH322
        have e342 : k0_2 = fZ H341 0 2 := by rw [eH341, fZ_sF_ne (by decide)]; exact e333
        have e343 : v340 = fZ H341 0 0 := by rw [eH341, fZ_sF_eq hIH322 sm_0 rfl]
        have m344 : kpM H H341 := kpM_F m335 eH341 (by omega)
        have xm345 : (∀ i, aZ H341 20 i = aZ H322 20 i) := fun i => (by rw [eH341, aZ_sF] : aZ H341 20 i = aZ H322 20 i).trans ((fun _ => rfl) i)
        have ie343 : v340.toInt = (fZ H341 0 0).toInt := by rw [← e343]
        refine g_iconst (by decide) (fun v346 kv346 => ?_)
        exact g_iret ⟨_, rfl, hIH341, (JM_n hJH341), (e342.symm.trans ek0_2), m344, (Or.inr (Or.inl ⟨by omega, by omega, by omega⟩))⟩
      · refine g_aload_n rfl ?_
        refine g_iload_n rfl ?_
        refine g_iload_n rfl ?_
        refine g_invvi hIH322 sm_0 rfl rfl rfl rfl (s_181 a1 (by omega) a2 (by omega) H322 hIH322 (JM_n hJH322)) (fun v349 H347 r348 => ?_)
        obtain ⟨rfl, p350⟩ := r348
        have yv349 : v349.toInt = (aZ H 2 (69 + 5 * a1.toInt.toNat + a2.toInt.toNat)).toInt := by rw [p350, m335.1 2 (by decide), show (69 + 5 * a1.toInt + a2.toInt).toNat = 69 + 5 * a1.toInt.toNat + a2.toInt.toNat by omega]
        exact g_iret ⟨_, rfl, hIH322, (JM_n hJH322), (e333.symm.trans ek0_2), m335, (Or.inr (Or.inr ⟨by omega, by omega, by omega, (mm_0 (by omega) yv349)⟩))⟩
      · refine g_aload_n rfl ?_
        refine g_iload_n rfl ?_
        refine g_iload_n rfl ?_
        refine g_invvi hIH322 sm_0 rfl rfl rfl rfl (s_181 a1 (by omega) a2 (by omega) H322 hIH322 (JM_n hJH322)) (fun v353 H351 r352 => ?_)
        obtain ⟨rfl, p354⟩ := r352
        have yv353 : v353.toInt = (aZ H 2 (69 + 5 * a1.toInt.toNat + a2.toInt.toNat)).toInt := by rw [p354, m335.1 2 (by decide), show (69 + 5 * a1.toInt + a2.toInt).toNat = 69 + 5 * a1.toInt.toNat + a2.toInt.toNat by omega]
        exact g_iret ⟨_, rfl, hIH322, (JM_n hJH322), (e333.symm.trans ek0_2), m335, (Or.inr (Or.inr ⟨by omega, by omega, by omega, (mm_0 (by omega) yv353)⟩))⟩
      · refine g_aload_n rfl ?_
        refine g_iload_n rfl ?_
        refine g_iload_n rfl ?_
        refine g_invvi hIH322 sm_0 rfl rfl rfl rfl (s_181 a1 (by omega) a2 (by omega) H322 hIH322 (JM_n hJH322)) (fun v357 H355 r356 => ?_)
        obtain ⟨rfl, p358⟩ := r356
        have yv357 : v357.toInt = (aZ H 2 (69 + 5 * a1.toInt.toNat + a2.toInt.toNat)).toInt := by rw [p358, m335.1 2 (by decide), show (69 + 5 * a1.toInt + a2.toInt).toNat = 69 + 5 * a1.toInt.toNat + a2.toInt.toNat by omega]
        exact g_iret ⟨_, rfl, hIH322, (JM_n hJH322), (e333.symm.trans ek0_2), m335, (Or.inr (Or.inr ⟨by omega, by omega, by omega, (mm_0 (by omega) yv357)⟩))⟩
      · refine g_aload_n rfl ?_
        refine g_iload_n rfl ?_
        refine g_iload_n rfl ?_
        refine g_invvi hIH322 sm_0 rfl rfl rfl rfl (s_181 a1 (by omega) a2 (by omega) H322 hIH322 (JM_n hJH322)) (fun v361 H359 r360 => ?_)
        obtain ⟨rfl, p362⟩ := r360
        have yv361 : v361.toInt = (aZ H 2 (69 + 5 * a1.toInt.toNat + a2.toInt.toNat)).toInt := by rw [p362, m335.1 2 (by decide), show (69 + 5 * a1.toInt + a2.toInt).toNat = 69 + 5 * a1.toInt.toNat + a2.toInt.toNat by omega]
        exact g_iret ⟨_, rfl, hIH322, (JM_n hJH322), (e333.symm.trans ek0_2), m335, (Or.inr (Or.inr ⟨by omega, by omega, by omega, (mm_0 (by omega) yv361)⟩))⟩
      · refine g_aload_n rfl ?_
        refine g_gfr hIH322 sm_0 rfl ?_
        refine g_iload_n rfl ?_
        refine g_iaload hIH322 sm_20 rfl (by omega) (fun v363 ev363 lv363 uv363 => ?_)
        have yv363 : v363.toInt = (aZ H322 20 a1.toInt.toNat).toInt := by rw [ev363]
        exact g_iret ⟨_, rfl, hIH322, (JM_n hJH322), (e333.symm.trans ek0_2), m335, (Or.inr (Or.inr ⟨by omega, by omega, by omega, (mm_4 (by omega) (by omega) uA336 cG337 wyp338 yv363)⟩))⟩
      · refine g_aload_n rfl ?_
        refine g_iload_n rfl ?_
        refine g_invvi hIH322 sm_0 rfl rfl rfl rfl (r_203 a1 (by omega) H322 hIH322 (JM_n hJH322) (by have z := p331 a1.toInt.toNat (by omega); rw [show ((a1.toInt.toNat : Nat) : Int) = a1.toInt by omega] at z; exact z)) (fun v366 H364 r365 => ?_)
        obtain ⟨rfl, p367⟩ := r365
        exact g_iret ⟨_, rfl, hIH322, (JM_n hJH322), (e333.symm.trans ek0_2), m335, (Or.inr (Or.inr ⟨by omega, by omega, by omega, (mm_5 (by omega) (by omega) uA336 oip338 p367)⟩))⟩
      · refine g_aload_n rfl ?_
        refine g_iload_n rfl ?_
        refine g_invvi hIH322 sm_0 rfl rfl rfl rfl (r_204 a1 (by omega) H322 hIH322 (JM_n hJH322)) (fun v370 H368 r369 => ?_)
        obtain ⟨rfl, bv370, p371⟩ := r369
        refine g_if_eq (fun c372 => ?_) (fun c372 => ?_)
        · refine g_iconst (by decide) (fun v373 kv373 => ?_)
          refine g_nop ?_
          exact g_iret ⟨_, rfl, hIH322, (JM_n hJH322), (e333.symm.trans ek0_2), m335, (Or.inr (Or.inr ⟨by omega, by omega, by omega, (mm_6 (by omega) (by have z := p371; rw [hM_kp m335] at z; rcases z with z | z <;> first | exact Or.inl ⟨by omega, z.2⟩ | exact Or.inr ⟨by omega, z.2⟩ | (exfalso; omega)))⟩))⟩
        · refine g_iconst (by decide) (fun v374 kv374 => ?_)
          refine g_goto ?_
          exact g_iret ⟨_, rfl, hIH322, (JM_n hJH322), (e333.symm.trans ek0_2), m335, (Or.inr (Or.inr ⟨by omega, by omega, by omega, (mm_6 (by omega) (by have z := p371; rw [hM_kp m335] at z; rcases z with z | z <;> first | exact Or.inl ⟨by omega, z.2⟩ | exact Or.inr ⟨by omega, z.2⟩ | (exfalso; omega)))⟩))⟩
    · refine g_nop ?_
      have hm3 := congrArg Int32.toInt (m309.1 2 (by decide) 2)
      refine g_aload_n rfl ?_
      refine g_iconst (by decide) (fun v375 kv375 => ?_)
      refine g_pfi hIH306 sm_0 rfl (gz_any _) (fun H376 eH376 hIH376 => ?_)
      have hJH376 : JN H376 := JN_sF eH376 hJH306
      have e377 : k0_2 = fZ H376 0 2 := by rw [eH376, fZ_sF_ne (by decide)]; exact e307
      have e378 : v375 = fZ H376 0 0 := by rw [eH376, fZ_sF_eq hIH306 sm_0 rfl]
      have m379 : kpM H H376 := kpM_F m309 eH376 (by omega)
      have ie378 : v375.toInt = (fZ H376 0 0).toInt := by rw [← e378]
      refine g_iconst (by decide) (fun v380 kv380 => ?_)
      exact g_iret ⟨_, rfl, hIH376, hJH376, (e377.symm.trans ek0_2), m379, (Or.inl ⟨by omega, by omega⟩)⟩
