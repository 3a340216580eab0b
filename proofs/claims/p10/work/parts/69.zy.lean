/-! QUESTIONS, THE REFERENCE -/
theorem tk_kp {H B A : mzH} (k : kpM H B) (t : tkW B A) : tkW H A := by
  obtain ⟨t1, t2, t3⟩ := t
  refine ⟨kpM_t k t1, fun i => (t2 i).trans (k.1 2 (by decide) i), fun q hq => ?_⟩
  have := t3 q (by rw [k.1 2 (by decide)]; exact hq)
  rw [k.1 2 (by decide)] at this
  exact this
theorem wm_md {r : pS} {md : Nat → Int} {n : Nat} (h : 0 ≤ whM r md n) : md n ≠ 0 := fun z => by
  unfold whM at h
  rw [if_pos z] at h
  omega
def sooM (r : pS) (md : Nat → Int) (wy : Int → Int → Int) (n : Nat) (h to : Int) : Int := if whM r md n < 0 then whM r md n else if whM r md n = to then h else if 100000 ≤ wy (whM r md n) to then -2 else if h < r.la (tp r n) + wy (whM r md n) to then r.la (tp r n) + wy (whM r md n) to else h
theorem sm_mk {r : pS} {md : Nat → Int} {wy : Int → Int → Int} {n : Nat} {h to v : Int} (q : (whM r md n < 0 ∧ v = whM r md n) ∨ (0 ≤ whM r md n ∧ whM r md n = to ∧ v = h) ∨ (0 ≤ whM r md n ∧ whM r md n ≠ to ∧ 100000 ≤ wy (whM r md n) to ∧ v = -2) ∨ (0 ≤ whM r md n ∧ whM r md n ≠ to ∧ wy (whM r md n) to < 100000 ∧ ((h < r.la (tp r n) + wy (whM r md n) to ∧ v = r.la (tp r n) + wy (whM r md n) to) ∨ (r.la (tp r n) + wy (whM r md n) to ≤ h ∧ v = h)))) : v = sooM r md wy n h to := by
  unfold sooM
  rcases q with ⟨q1, q2⟩ | ⟨q1, q2, q3⟩ | ⟨q1, q2, q3, q4⟩ | ⟨q1, q2, q3, q4⟩
  · rw [if_pos q1, q2]
  · rw [if_neg (by omega), if_pos q2, q3]
  · rw [if_neg (by omega), if_neg q2, if_pos q3, q4]
  · rw [if_neg (by omega), if_neg q2, if_neg (by omega)]
    split <;> omega
set_option maxRecDepth 4000 in
set_option maxHeartbeats 4000000 in
/-- M.isThing -/
theorem r_205 (a0 : Int32) (H : mzH) (hI : gI SM H) (hJ : JN H) : gCall 205 [.int a0] H (gRi (fun v H' => H = H' ∧ (0 ≤ v.toInt ∧ v.toInt ≤ 1) ∧ ((v.toInt = 1 ∧ (0 ≤ a0.toInt ∧ a0.toInt ≤ 39)) ∨ (v.toInt = 0 ∧ ¬ (0 ≤ a0.toInt ∧ a0.toInt ≤ 39))))) := by
  refine gG_call [(0, .int a0)] ⟨rfl, trivial⟩ ?_
  show gG 1 zB_205 (mzBlk zB_205 0) [(0, .int a0)] [] H 0 0 _
  refine g_iload_n rfl ?_
  refine g_if_lt (fun c25 => ?_) (fun c25 => ?_)
  · refine g_iconst (by decide) (fun v26 kv26 => ?_)
    refine g_nop ?_
    exact g_zret (by omega) ⟨_, rfl, rfl, (by omega), (by omega)⟩
  · refine g_iload_n rfl ?_
    refine g_bipush (by decide) (fun v27 kv27 => ?_)
    refine g_if2_ge (fun c28 => ?_) (fun c28 => ?_)
    · refine g_iconst (by decide) (fun v29 kv29 => ?_)
      refine g_nop ?_
      exact g_zret (by omega) ⟨_, rfl, rfl, (by omega), (by omega)⟩
    · refine g_iconst (by decide) (fun v30 kv30 => ?_)
      refine g_goto ?_
      exact g_zret (by omega) ⟨_, rfl, rfl, (by omega), (by omega)⟩
set_option maxRecDepth 4000 in
set_option maxHeartbeats 4000000 in
/-- M.isHour -/
theorem r_206 (a0 : Int32) (H : mzH) (hI : gI SM H) (hJ : JN H) : gCall 206 [.int a0] H (gRi (fun v H' => H = H' ∧ (0 ≤ v.toInt ∧ v.toInt ≤ 1) ∧ ((v.toInt = 1 ∧ (0 ≤ a0.toInt ∧ a0.toInt ≤ 999)) ∨ (v.toInt = 0 ∧ ¬ (0 ≤ a0.toInt ∧ a0.toInt ≤ 999))))) := by
  refine gG_call [(0, .int a0)] ⟨rfl, trivial⟩ ?_
  show gG 1 zB_206 (mzBlk zB_206 0) [(0, .int a0)] [] H 0 0 _
  refine g_iload_n rfl ?_
  refine g_if_lt (fun c25 => ?_) (fun c25 => ?_)
  · refine g_iconst (by decide) (fun v26 kv26 => ?_)
    refine g_nop ?_
    exact g_zret (by omega) ⟨_, rfl, rfl, (by omega), (by omega)⟩
  · refine g_iload_n rfl ?_
    refine g_sipush (by decide) (fun v27 kv27 => ?_)
    refine g_if2_gt (fun c28 => ?_) (fun c28 => ?_)
    · refine g_iconst (by decide) (fun v29 kv29 => ?_)
      refine g_nop ?_
      exact g_zret (by omega) ⟨_, rfl, rfl, (by omega), (by omega)⟩
    · refine g_iconst (by decide) (fun v30 kv30 => ?_)
      refine g_goto ?_
      exact g_zret (by omega) ⟨_, rfl, rfl, (by omega), (by omega)⟩
set_option maxRecDepth 4000 in
set_option maxHeartbeats 4000000 in
/-- M.isPlace -/
theorem r_210 (a1 : Int32) (H : mzH) (hI : gI SM H) (hJ : JN H) : gCall 210 [.ref 0, .int a1] H (gRi (fun v H' => H = H' ∧ (0 ≤ v.toInt ∧ v.toInt ≤ 1) ∧ ((v.toInt = 1 ∧ (0 ≤ a1.toInt ∧ a1.toInt < (aZ H 2 0).toInt)) ∨ (v.toInt = 0 ∧ ¬ (0 ≤ a1.toInt ∧ a1.toInt < (aZ H 2 0).toInt))) ∧ (v.toInt = 0 ∨ (0 ≤ a1.toInt ∧ a1.toInt ≤ 7)))) := by
  refine gG_call [(0, .ref 0), (1, .int a1)] ⟨rfl, rfl, trivial⟩ ?_
  show gG 2 zB_210 (mzBlk zB_210 0) [(0, .ref 0), (1, .int a1)] [] H 0 0 _
  refine g_iload_n rfl ?_
  refine g_if_lt (fun c29 => ?_) (fun c29 => ?_)
  · refine g_iconst (by decide) (fun v30 kv30 => ?_)
    refine g_nop ?_
    exact g_zret (by omega) ⟨_, rfl, rfl, (by omega), (by omega), (by omega)⟩
  · refine g_iload_n rfl ?_
    refine g_aload_n rfl ?_
    refine g_gfr hI sm_0 rfl ?_
    refine g_iconst (by decide) (fun v31 kv31 => ?_)
    refine g_iaload hI sm_2 rfl (by omega) (fun v32 ev32 lv32 uv32 => ?_)
    have qv32 := JN_n20 hJ (v := v32) (by rw [ev32, show v31.toInt.toNat = 0 from by omega])
    have zv32 : v32.toInt = (aZ H 2 0).toInt := by rw [ev32, show v31.toInt.toNat = 0 from by omega]
    refine g_if2_ge (fun c33 => ?_) (fun c33 => ?_)
    · refine g_iconst (by decide) (fun v34 kv34 => ?_)
      refine g_nop ?_
      exact g_zret (by omega) ⟨_, rfl, rfl, (by omega), (by omega), (by omega)⟩
    · refine g_iconst (by decide) (fun v35 kv35 => ?_)
      refine g_goto ?_
      exact g_zret (by omega) ⟨_, rfl, rfl, (by omega), (by omega), (by omega)⟩
set_option maxRecDepth 4000 in
set_option maxHeartbeats 4000000 in
/-- M.whereIs -/
theorem r_201 {s : pS} {md : Nat → Int} (a1 : Int32) (ha1 : 0 ≤ a1.toInt ∧ a1.toInt ≤ 39) (H : mzH) (hI : gI SM H) (hJ : JM H) (hp0 : rwX H s md) (hp1 : dpt s) : gCall 201 [.ref 0, .int a1] H (gRi (fun v H' => H = H' ∧ (-4 ≤ v.toInt ∧ v.toInt ≤ 7) ∧ v.toInt = whM s md a1.toInt.toNat)) := by
  refine gG_call [(0, .ref 0), (1, .int a1)] ⟨rfl, rfl, trivial⟩ ?_
  show gG 3 zB_201 (mzBlk zB_201 0) [(0, .ref 0), (1, .int a1)] [] H 0 0 _
  refine g_aload_n rfl ?_
  refine g_gfr hI sm_0 rfl ?_
  refine g_iload_n rfl ?_
  refine g_baload hI sm_7 rfl (by omega) (fun v57 ev57 lv57 uv57 => ?_)
  have yv57 : v57.toInt = md a1.toInt.toNat := by rw [ev57]; exact (hp0 _ (by omega)).1
  refine g_if_ne (fun c58 => ?_) (fun c58 => ?_)
  · refine g_aload_n rfl ?_
    refine g_gfr hI sm_0 rfl ?_
    refine g_iload_n rfl ?_
    refine g_baload hI sm_16 rfl (by omega) (fun v59 ev59 lv59 uv59 => ?_)
    have yv59 : v59.toInt = (s).en a1.toInt.toNat := by rw [ev59]; exact (hp0 _ (by omega)).2.2.2.2.2.2.2.2.2
    refine g_if_eq (fun c60 => ?_) (fun c60 => ?_)
    · refine g_aload_n rfl ?_
      refine g_iload_n rfl ?_
      refine g_invvi hI sm_0 rfl rfl rfl rfl (r_185 a1 (by omega) H hI hJ hp0 hp1) (fun v63 H61 r62 => ?_)
      obtain ⟨rfl, bv63, p64⟩ := r62
      have tnv63 : v63.toInt.toNat = tp s a1.toInt.toNat := by omega
      refine g_istore_n (l' := [(0, .ref 0), (1, .int a1), (2, .int v63)]) rfl rfl ?_
      refine g_aload_n rfl ?_
      refine g_gfr hI sm_0 rfl ?_
      refine g_iload_n rfl ?_
      refine g_baload hI sm_15 rfl (by omega) (fun v65 ev65 lv65 uv65 => ?_)
      have yv65 : v65.toInt = (s).so v63.toInt.toNat := by rw [ev65]; exact (hp0 _ (by omega)).2.2.2.2.2.2.2.2.1
      rw [tnv63] at yv65
      refine g_if_eq (fun c66 => ?_) (fun c66 => ?_)
      · refine g_aload_n rfl ?_
        refine g_gfr hI sm_0 rfl ?_
        refine g_iload_n rfl ?_
        refine g_iaload hI sm_10 rfl (by omega) (fun v67 ev67 lv67 uv67 => ?_)
        have yv67 : v67.toInt = (s).pl v63.toInt.toNat := by rw [ev67]; exact (hp0 _ (by omega)).2.2.2.1
        rw [tnv63] at yv67
        refine g_nop ?_
        exact g_iret ⟨_, rfl, rfl, (by omega), (by unfold whM; first | (rw [if_pos (by omega)]; omega) | (rw [if_neg (by omega), if_pos (by omega)]; omega) | (rw [if_neg (by omega), if_neg (by omega), if_pos (by omega)]; omega) | (rw [if_neg (by omega), if_neg (by omega), if_neg (by omega)]; omega))⟩
      · refine g_bipush (by decide) (fun v68 kv68 => ?_)
        refine g_goto ?_
        exact g_iret ⟨_, rfl, rfl, (by omega), (by unfold whM; first | (rw [if_pos (by omega)]; omega) | (rw [if_neg (by omega), if_pos (by omega)]; omega) | (rw [if_neg (by omega), if_neg (by omega), if_pos (by omega)]; omega) | (rw [if_neg (by omega), if_neg (by omega), if_neg (by omega)]; omega))⟩
    · refine g_bipush (by decide) (fun v69 kv69 => ?_)
      exact g_iret ⟨_, rfl, rfl, (by omega), (by unfold whM; first | (rw [if_pos (by omega)]; omega) | (rw [if_neg (by omega), if_pos (by omega)]; omega) | (rw [if_neg (by omega), if_neg (by omega), if_pos (by omega)]; omega) | (rw [if_neg (by omega), if_neg (by omega), if_neg (by omega)]; omega))⟩
  · refine g_bipush (by decide) (fun v70 kv70 => ?_)
    exact g_iret ⟨_, rfl, rfl, (by omega), (by unfold whM; first | (rw [if_pos (by omega)]; omega) | (rw [if_neg (by omega), if_pos (by omega)]; omega) | (rw [if_neg (by omega), if_neg (by omega), if_pos (by omega)]; omega) | (rw [if_neg (by omega), if_neg (by omega), if_neg (by omega)]; omega))⟩
set_option maxRecDepth 4000 in
set_option maxHeartbeats 4000000 in
/-- M.soonest -/
theorem r_245 (a1 : Int32) (a2 : Int32) (a3 : Int32) (H : mzH) (hI : gI SM H) (hJ : JN H) (hp0 : ((∀ A, tkW H A → gdM A))) (hp1 : (∀ a b : Int, a ≠ b → (0 ≤ a ∧ a < 8) → (0 ≤ b ∧ b < 8) → 0 ≤ wyM H a b)) : gCall 245 [.ref 0, .int a1, .int a2, .int a3] H (gRi (fun v H' => gI SM H' ∧ JN H' ∧ fZ H' 0 2 = fZ H 0 2 ∧ kpM H H' ∧ ((v.toInt = -1 ∧ ¬ ((0 ≤ a1.toInt ∧ a1.toInt ≤ 39) ∧ (0 ≤ a2.toInt ∧ a2.toInt ≤ 999) ∧ (0 ≤ a3.toInt ∧ a3.toInt < (aZ H 2 0).toInt))) ∨ (((0 ≤ a1.toInt ∧ a1.toInt ≤ 39) ∧ (0 ≤ a2.toInt ∧ a2.toInt ≤ 999) ∧ (0 ≤ a3.toInt ∧ a3.toInt < (aZ H 2 0).toInt)) ∧ ∃ A : mzH, tkW H A ∧ ∃ G : mzH, clR (rgM G) (mdM G) ∧ ∃ p : Nat, stM A a2.toInt p ∧ v.toInt = sooM (fM A G p).1 (fM A G p).2 (wyM H) a1.toInt.toNat a2.toInt a3.toInt)))) := by
  obtain ⟨k0_2, ek0_2⟩ : ∃ z, z = fZ H 0 2 := ⟨_, rfl⟩
  have ik0_2 : k0_2.toInt = (fZ H 0 2).toInt := by rw [← ek0_2]
  have bk0_2 : 0 ≤ k0_2.toInt ∧ k0_2.toInt ≤ 900 := by rw [ek0_2]; exact fZ_of hI sm_0 rfl
  have mkfr : kpM H H := kpM_r
  refine gG_call [(0, .ref 0), (1, .int a1), (2, .int a2), (3, .int a3)] ⟨rfl, rfl, rfl, rfl, trivial⟩ ?_
  show gG 7 zB_245 (mzBlk zB_245 0) [(0, .ref 0), (1, .int a1), (2, .int a2), (3, .int a3)] [] H 0 0 _
  refine g_aload_n rfl ?_
  refine g_iconst (by decide) (fun v221 kv221 => ?_)
  refine g_pfi hI sm_0 rfl (gz_any _) (fun H222 eH222 hIH222 => ?_)
  have hJH222 : JN H222 := JN_sF eH222 hJ
  have e223 : k0_2 = fZ H222 0 2 := by rw [eH222, fZ_sF_ne (by decide)]; exact ek0_2
  have m224 : kpM H H222 := kpM_F mkfr eH222 (by omega)
  refine g_iload_n rfl ?_
  refine g_invti rfl rfl rfl (r_205 a1 H222 hIH222 hJH222) (fun v227 H225 r226 => ?_)
  obtain ⟨rfl, bv227, p228⟩ := r226
  refine g_if_eq (fun c229 => ?_) (fun c229 => ?_)
  · refine g_iconst (by decide) (fun v230 kv230 => ?_)
    exact g_iret ⟨_, rfl, hIH222, hJH222, (e223.symm.trans ek0_2), m224, (Or.inl ⟨by omega, by omega⟩)⟩
  · refine g_iload_n rfl ?_
    refine g_invti rfl rfl rfl (r_206 a2 H222 hIH222 hJH222) (fun v233 H231 r232 => ?_)
    obtain ⟨rfl, bv233, p234⟩ := r232
    refine g_if_eq (fun c235 => ?_) (fun c235 => ?_)
    · refine g_iconst (by decide) (fun v236 kv236 => ?_)
      exact g_iret ⟨_, rfl, hIH222, hJH222, (e223.symm.trans ek0_2), m224, (Or.inl ⟨by omega, by omega⟩)⟩
    · refine g_aload_n rfl ?_
      refine g_iload_n rfl ?_
      refine g_invvi hIH222 sm_0 rfl rfl rfl rfl (r_210 a3 H222 hIH222 hJH222) (fun v239 H237 r238 => ?_)
      obtain ⟨rfl, bv239, p240, p241⟩ := r238
      rw [m224.1 2 (by decide)] at p240
      refine g_if_ne (fun c242 => ?_) (fun c242 => ?_)
      · refine g_aload_n rfl ?_
        refine g_iload_n rfl ?_
        refine g_invvv hIH222 sm_0 rfl rfl rfl rfl (r_200 a2 H222 hIH222 hJH222 (fun A t => hp0 A (tk_kp m224 t))) (fun H243 r244 => ?_)
        obtain ⟨hIH243, hJH243, w245, m246, p247⟩ := r244
        have e248 : k0_2 = fZ H243 0 2 := e223.trans w245.symm
        have m249 : kpM H H243 := kpM_t m224 m246
        obtain ⟨A250, tA250, G251, cG251, p252, wdp252, stp252, wyp252, oip252⟩ := p247
        have uA250 : tkW H A250 := tk_kp m224 tA250
        obtain ⟨dpp252, lap252⟩ := (hp0 A250 uA250).2 G251 cG251 p252 stp252.1
        refine g_aload_n rfl ?_
        refine g_iload_n rfl ?_
        refine g_invvi hIH243 sm_0 rfl rfl rfl rfl (r_201 a1 (by omega) H243 hIH243 hJH243 wdp252 dpp252) (fun v255 H253 r254 => ?_)
        obtain ⟨rfl, bv255, p256⟩ := r254
        refine g_istore (l' := [(0, .ref 0), (1, .int a1), (2, .int a2), (3, .int a3), (4, .int v255)]) rfl rfl ?_
        refine g_iload rfl ?_
        refine g_if_lt (fun c257 => ?_) (fun c257 => ?_)
        · refine g_iload rfl ?_
          refine g_if_ge (fun c258 => ?_) (fun c258 => ?_)
          · exfalso; omega
          · refine g_iload rfl ?_
            refine g_goto ?_
            exact g_iret ⟨_, rfl, hIH243, (JM_n hJH243), (e248.symm.trans ek0_2), m249, (Or.inr ⟨by omega, ⟨A250, uA250, G251, cG251, p252, stp252,  sm_mk (by omega)⟩⟩)⟩
        · refine g_iload rfl ?_
          refine g_iload_n rfl ?_
          refine g_if2_ne (fun c259 => ?_) (fun c259 => ?_)
          · refine g_aload_n rfl ?_
            refine g_gfr hIH243 sm_0 rfl ?_
            refine g_bipush (by decide) (fun v260 kv260 => ?_)
            refine g_iload rfl ?_
            refine g_imulk' (n := 8) kv260 (by omega) (fun v261 ev261 => ?_)
            refine g_iload_n rfl ?_
            refine g_iadd (by omega) (fun v262 ev262 => ?_)
            refine g_iaload hIH243 sm_6 rfl (by omega) (fun v263 ev263 lv263 uv263 => ?_)
            have wvv263 : v263.toInt = wyM H (whM (fM A250 G251 p252).1 (fM A250 G251 p252).2 a1.toInt.toNat) a3.toInt := by unfold wyM; rw [ev263, m249.1 6 (by decide), show (8 * whM (fM A250 G251 p252).1 (fM A250 G251 p252).2 a1.toInt.toNat + a3.toInt).toNat = v262.toInt.toNat by omega]
            have wbv263 := hp1 (whM (fM A250 G251 p252).1 (fM A250 G251 p252).2 a1.toInt.toNat) a3.toInt (by omega) (by omega) (by omega)
            refine g_istore (l' := [(0, .ref 0), (1, .int a1), (2, .int a2), (3, .int a3), (4, .int v255), (5, .int v263)]) rfl rfl ?_
            refine g_iload rfl ?_
            refine g_ldc (by decide) (fun v264 kv264 => ?_)
            refine g_if2_lt (fun c265 => ?_) (fun c265 => ?_)
            · refine g_aload_n rfl ?_
              refine g_gfr hIH243 sm_0 rfl ?_
              refine g_aload_n rfl ?_
              refine g_iload_n rfl ?_
              refine g_invvi hIH243 sm_0 rfl rfl rfl rfl (r_185 a1 (by omega) H243 hIH243 hJH243 wdp252 dpp252) (fun v268 H266 r267 => ?_)
              obtain ⟨rfl, bv268, p269⟩ := r267
              have tnv268 : v268.toInt.toNat = tp (fM A250 G251 p252).1 a1.toInt.toNat := by omega
              refine g_iaload hIH243 sm_11 rfl (by omega) (fun v270 ev270 lv270 uv270 => ?_)
              have yv270 : v270.toInt = ((fM A250 G251 p252).1).la v268.toInt.toNat := by rw [ev270]; exact (wdp252 _ (by omega)).2.2.2.2.1
              rw [tnv268] at yv270
              refine g_iload rfl ?_
              refine g_iadd' (fun v271 ov271 => ?_)
              have lbv271 := lap252 a1.toInt.toNat (by omega) (wm_md (r := (fM A250 G251 p252).1) (by omega))
              have sv271 : v271.toInt = v270.toInt + v263.toInt := gz_add_of ov271 (by omega)
              refine g_istore (l' := [(0, .ref 0), (1, .int a1), (2, .int a2), (3, .int a3), (4, .int v255), (5, .int v263), (6, .int v271)]) rfl rfl ?_
              refine g_iload rfl ?_
              refine g_iload_n rfl ?_
              refine g_if2_le (fun c272 => ?_) (fun c272 => ?_)
              · refine g_iload_n rfl ?_
                refine g_nop ?_
                exact g_iret ⟨_, rfl, hIH243, (JM_n hJH243), (e248.symm.trans ek0_2), m249, (Or.inr ⟨by omega, ⟨A250, uA250, G251, cG251, p252, stp252,  sm_mk (by omega)⟩⟩)⟩
              · refine g_iload rfl ?_
                refine g_goto ?_
                exact g_iret ⟨_, rfl, hIH243, (JM_n hJH243), (e248.symm.trans ek0_2), m249, (Or.inr ⟨by omega, ⟨A250, uA250, G251, cG251, p252, stp252,  sm_mk (by omega)⟩⟩)⟩
            · refine g_bipush (by decide) (fun v273 kv273 => ?_)
              exact g_iret ⟨_, rfl, hIH243, (JM_n hJH243), (e248.symm.trans ek0_2), m249, (Or.inr ⟨by omega, ⟨A250, uA250, G251, cG251, p252, stp252,  sm_mk (by omega)⟩⟩)⟩
          · refine g_nop ?_
            refine g_iload rfl ?_
            refine g_if_ge (fun c274 => ?_) (fun c274 => ?_)
            · refine g_iload_n rfl ?_
              refine g_nop ?_
              exact g_iret ⟨_, rfl, hIH243, (JM_n hJH243), (e248.symm.trans ek0_2), m249, (Or.inr ⟨by omega, ⟨A250, uA250, G251, cG251, p252, stp252,  sm_mk (by omega)⟩⟩)⟩
            · exfalso; omega
      · refine g_nop ?_
        refine g_iconst (by decide) (fun v275 kv275 => ?_)
        exact g_iret ⟨_, rfl, hIH222, hJH222, (e223.symm.trans ek0_2), m224, (Or.inl ⟨by omega, by omega⟩)⟩
