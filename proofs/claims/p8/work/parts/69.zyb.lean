def telM (s : pS) (md : Nat → Int) (n : Nat) (w : Int) : Int := if md n = 0 then -2 else if ¬ s.en n = 0 then -4 else if w = 0 then s.kd n else if w = 1 then s.ii n else if w = 2 then (tp s n : Int) else if w = 3 then whM s md n else if w = 4 then s.op n else if w = 5 then s.he n else if w = 6 then s.se n else if w = 7 then s.la (tp s n) else if w = 8 then hel s (n : Int) else cnt (fun x => inn s x (n : Int) = 1) 40
theorem tm_a {s : pS} {md : Nat → Int} {n : Nat} {w v : Int} (h : md n = 0) (e : v = -2) : v = telM s md n w := by
  unfold telM
  rw [if_pos h, e]
theorem tm_b {s : pS} {md : Nat → Int} {n : Nat} {w v : Int} (h : ¬ md n = 0) (k : ¬ s.en n = 0) (e : v = -4) : v = telM s md n w := by
  unfold telM
  rw [if_neg h, if_pos k, e]
theorem tm_0 {s : pS} {md : Nat → Int} {n : Nat} {w v : Int} (h : ¬ md n = 0) (k : s.en n = 0) (hw : w = 0) (e : v = s.kd n) : v = telM s md n w := by
  unfold telM
  rw [if_neg h, if_neg (fun z => z k), if_pos hw, e]
theorem tm_1 {s : pS} {md : Nat → Int} {n : Nat} {w v : Int} (h : ¬ md n = 0) (k : s.en n = 0) (hw : w = 1) (e : v = s.ii n) : v = telM s md n w := by
  unfold telM
  rw [if_neg h, if_neg (fun z => z k), if_neg (by omega), if_pos hw, e]
theorem tm_2 {s : pS} {md : Nat → Int} {n : Nat} {w v : Int} (h : ¬ md n = 0) (k : s.en n = 0) (hw : w = 2) (e : v = (tp s n : Int)) : v = telM s md n w := by
  unfold telM
  rw [if_neg h, if_neg (fun z => z k), if_neg (by omega), if_neg (by omega), if_pos hw, e]
theorem tm_3 {s : pS} {md : Nat → Int} {n : Nat} {w v : Int} (h : ¬ md n = 0) (k : s.en n = 0) (hw : w = 3) (e : v = whM s md n) : v = telM s md n w := by
  unfold telM
  rw [if_neg h, if_neg (fun z => z k), if_neg (by omega), if_neg (by omega), if_neg (by omega), if_pos hw, e]
theorem tm_4 {s : pS} {md : Nat → Int} {n : Nat} {w v : Int} (h : ¬ md n = 0) (k : s.en n = 0) (hw : w = 4) (e : v = s.op n) : v = telM s md n w := by
  unfold telM
  rw [if_neg h, if_neg (fun z => z k), if_neg (by omega), if_neg (by omega), if_neg (by omega), if_neg (by omega), if_pos hw, e]
theorem tm_5 {s : pS} {md : Nat → Int} {n : Nat} {w v : Int} (h : ¬ md n = 0) (k : s.en n = 0) (hw : w = 5) (e : v = s.he n) : v = telM s md n w := by
  unfold telM
  rw [if_neg h, if_neg (fun z => z k), if_neg (by omega), if_neg (by omega), if_neg (by omega), if_neg (by omega), if_neg (by omega), if_pos hw, e]
theorem tm_6 {s : pS} {md : Nat → Int} {n : Nat} {w v : Int} (h : ¬ md n = 0) (k : s.en n = 0) (hw : w = 6) (e : v = s.se n) : v = telM s md n w := by
  unfold telM
  rw [if_neg h, if_neg (fun z => z k), if_neg (by omega), if_neg (by omega), if_neg (by omega), if_neg (by omega), if_neg (by omega), if_neg (by omega), if_pos hw, e]
theorem tm_7 {s : pS} {md : Nat → Int} {n : Nat} {w v : Int} (h : ¬ md n = 0) (k : s.en n = 0) (hw : w = 7) (e : v = s.la (tp s n)) : v = telM s md n w := by
  unfold telM
  rw [if_neg h, if_neg (fun z => z k), if_neg (by omega), if_neg (by omega), if_neg (by omega), if_neg (by omega), if_neg (by omega), if_neg (by omega), if_neg (by omega), if_pos hw, e]
theorem tm_8 {s : pS} {md : Nat → Int} {n : Nat} {w v : Int} (h : ¬ md n = 0) (k : s.en n = 0) (hw : w = 8) (e : v = hel s (n : Int)) : v = telM s md n w := by
  unfold telM
  rw [if_neg h, if_neg (fun z => z k), if_neg (by omega), if_neg (by omega), if_neg (by omega), if_neg (by omega), if_neg (by omega), if_neg (by omega), if_neg (by omega), if_neg (by omega), if_pos hw, e]
theorem tm_9 {s : pS} {md : Nat → Int} {n : Nat} {w v : Int} (h : ¬ md n = 0) (k : s.en n = 0) (hw : 9 ≤ w) (e : v = cnt (fun x => inn s x (n : Int) = 1) 40) : v = telM s md n w := by
  unfold telM
  rw [if_neg h, if_neg (fun z => z k), if_neg (by omega), if_neg (by omega), if_neg (by omega), if_neg (by omega), if_neg (by omega), if_neg (by omega), if_neg (by omega), if_neg (by omega), if_neg (by omega), e]
set_option maxRecDepth 4000 in
set_option maxHeartbeats 4000000 in
/-- M.allIn -/
theorem r_207 {s : pS} {md : Nat → Int} (a1 : Int32) (ha1 : 0 ≤ a1.toInt ∧ a1.toInt ≤ 39) (H : mzH) (hI : gI SM H) (hJ : JM H) (hp0 : rwX H s md) (hp1 : dpt s) : gCall 207 [.ref 0, .int a1] H (gRi (fun v H' => H = H' ∧ v.toInt = cnt (fun x => inn s x a1.toInt = 1) 40)) := by
  refine gG_call [(0, .ref 0), (1, .int a1)] ⟨rfl, rfl, trivial⟩ ?_
  show gG 4 zB_207 (mzBlk zB_207 0) [(0, .ref 0), (1, .int a1)] [] H 0 0 _
  refine g_iconst (by decide) (fun v489 kv489 => ?_)
  refine g_istore_n (l' := [(0, .ref 0), (1, .int a1), (2, .int v489)]) rfl rfl ?_
  refine g_iconst (by decide) (fun v490 kv490 => ?_)
  refine g_istore_n (l' := [(0, .ref 0), (1, .int a1), (2, .int v489), (3, .int v490)]) rfl rfl ?_
  refine g_nop ?_
  have L493 : ∀ (N : Nat) (v491 : Int32) (v492 : Int32), (0 ≤ v492.toInt ∧ v492.toInt ≤ 40) → v491.toInt = cnt (fun x => inn s x a1.toInt = 1) v492.toInt.toNat → (0 ≤ v491.toInt ∧ v491.toInt ≤ v492.toInt) → (40 - v492.toInt).toNat < N → gG 4 zB_207 (mzBlk zB_207 1) [(0, .ref 0), (1, .int a1), (2, .int v491), (3, .int v492)] [] H 0 0 (gRi (fun v H' => H = H' ∧ v.toInt = cnt (fun x => inn s x a1.toInt = 1) 40)) := by
    intro N
    induction N with
    | zero => intro v491 v492 bv492 q1 q2 hmL493; exact absurd hmL493 (Nat.not_lt_zero _)
    | succ N ihL493 =>
      intro v491 v492 bv492 q1 q2 hmL493
      refine g_iload_n rfl ?_
      refine g_bipush (by decide) (fun v494 kv494 => ?_)
      refine g_if2_ge (fun c495 => ?_) (fun c495 => ?_)
      · refine g_iload_n rfl ?_
        exact g_iret ⟨_, rfl, rfl, (cn_end q1 (by omega))⟩
      · refine g_iload_n rfl ?_
        refine g_aload_n rfl ?_
        refine g_iload_n rfl ?_
        refine g_iload_n rfl ?_
        refine g_invvi hI sm_0 rfl rfl rfl rfl (r_186 v492 (by omega) a1 (by omega) H hI hJ hp0 hp1) (fun v498 H496 r497 => ?_)
        obtain ⟨rfl, bv498, p499⟩ := r497
        have ibv498 := inn_b (s := s) (n := v492.toInt.toNat) (o := a1.toInt)
        refine g_if_eq (fun c500 => ?_) (fun c500 => ?_)
        · refine g_iconst (by decide) (fun v501 kv501 => ?_)
          refine g_nop ?_
          refine g_iadd (by have := gz_any v491; omega) (fun v502 ev502 => ?_)
          refine g_istore_n (l' := [(0, .ref 0), (1, .int a1), (2, .int v502), (3, .int v492)]) rfl rfl ?_
          refine g_iinc (l' := (fun v503 => [(0, .ref 0), (1, .int a1), (2, .int v502), (3, .int v503)])) rfl rfl (by decide) (by omega) (fun _ => rfl) (fun v503 ev503 => ?_)
          refine g_goto ?_
          exact ihL493 v502 v503 (by omega) (cn_n q1 (by omega) (by show ¬ (inn s v492.toInt.toNat a1.toInt = 1); omega) (by omega)) (by omega) (by omega)
        · refine g_iconst (by decide) (fun v504 kv504 => ?_)
          refine g_goto ?_
          refine g_iadd' (fun v505 ov505 => ?_)
          have sv505 : v505.toInt = v491.toInt + v504.toInt := gz_add_of ov505 (by omega)
          refine g_istore_n (l' := [(0, .ref 0), (1, .int a1), (2, .int v505), (3, .int v492)]) rfl rfl ?_
          refine g_iinc (l' := (fun v506 => [(0, .ref 0), (1, .int a1), (2, .int v505), (3, .int v506)])) rfl rfl (by decide) (by omega) (fun _ => rfl) (fun v506 ev506 => ?_)
          refine g_goto ?_
          exact ihL493 v505 v506 (by omega) (cn_y q1 (by omega) (by show (inn s v492.toInt.toNat a1.toInt = 1); omega) (by omega)) (by omega) (by omega)
  exact L493 _ v489 v490 (by omega) (cn_0 (by omega) (by omega)) (by omega) (Nat.lt_succ_self _)
set_option maxRecDepth 4000 in
set_option maxHeartbeats 4000000 in
/-- M.thing -/
theorem r_208 (a1 : Int32) (a2 : Int32) (a3 : Int32) (H : mzH) (hI : gI SM H) (hJ : JN H) (hp0 : ((∀ A, tkW H A → gdM A))) : gCall 208 [.ref 0, .int a1, .int a2, .int a3] H (gRi (fun v H' => gI SM H' ∧ JN H' ∧ fZ H' 0 2 = fZ H 0 2 ∧ kpM H H' ∧ ((v.toInt = -1 ∧ ¬ ((0 ≤ a1.toInt ∧ a1.toInt ≤ 39) ∧ (0 ≤ a2.toInt ∧ a2.toInt ≤ 999) ∧ (0 ≤ a3.toInt ∧ a3.toInt ≤ 9))) ∨ (((0 ≤ a1.toInt ∧ a1.toInt ≤ 39) ∧ (0 ≤ a2.toInt ∧ a2.toInt ≤ 999) ∧ (0 ≤ a3.toInt ∧ a3.toInt ≤ 9)) ∧ ∃ A : mzH, tkW H A ∧ ∃ G : mzH, clR (rgM G) (mdM G) ∧ ∃ p : Nat, stM A a2.toInt p ∧ v.toInt = telM (fM A G p).1 (fM A G p).2 a1.toInt.toNat a3.toInt)))) := by
  obtain ⟨k0_2, ek0_2⟩ : ∃ z, z = fZ H 0 2 := ⟨_, rfl⟩
  have ik0_2 : k0_2.toInt = (fZ H 0 2).toInt := by rw [← ek0_2]
  have bk0_2 : 0 ≤ k0_2.toInt ∧ k0_2.toInt ≤ 900 := by rw [ek0_2]; exact fZ_of hI sm_0 rfl
  have mkfr : kpM H H := kpM_r
  refine gG_call [(0, .ref 0), (1, .int a1), (2, .int a2), (3, .int a3)] ⟨rfl, rfl, rfl, rfl, trivial⟩ ?_
  show gG 4 zB_208 (mzBlk zB_208 0) [(0, .ref 0), (1, .int a1), (2, .int a2), (3, .int a3)] [] H 0 0 _
  refine g_aload_n rfl ?_
  refine g_iconst (by decide) (fun v281 kv281 => ?_)
  refine g_pfi hI sm_0 rfl (gz_any _) (fun H282 eH282 hIH282 => ?_)
  have hJH282 : JN H282 := JN_sF eH282 hJ
  have e283 : k0_2 = fZ H282 0 2 := by rw [eH282, fZ_sF_ne (by decide)]; exact ek0_2
  have m284 : kpM H H282 := kpM_F mkfr eH282 (by omega)
  refine g_iload_n rfl ?_
  refine g_invti rfl rfl rfl (r_205 a1 H282 hIH282 hJH282) (fun v287 H285 r286 => ?_)
  obtain ⟨rfl, bv287, p288⟩ := r286
  refine g_if_eq (fun c289 => ?_) (fun c289 => ?_)
  · refine g_iconst (by decide) (fun v290 kv290 => ?_)
    exact g_iret ⟨_, rfl, hIH282, hJH282, (e283.symm.trans ek0_2), m284, (Or.inl ⟨by omega, by omega⟩)⟩
  · refine g_iload_n rfl ?_
    refine g_invti rfl rfl rfl (r_206 a2 H282 hIH282 hJH282) (fun v293 H291 r292 => ?_)
    obtain ⟨rfl, bv293, p294⟩ := r292
    refine g_if_eq (fun c295 => ?_) (fun c295 => ?_)
    · refine g_iconst (by decide) (fun v296 kv296 => ?_)
      exact g_iret ⟨_, rfl, hIH282, hJH282, (e283.symm.trans ek0_2), m284, (Or.inl ⟨by omega, by omega⟩)⟩
    · refine g_iload_n rfl ?_
      refine g_if_lt (fun c297 => ?_) (fun c297 => ?_)
      · refine g_iconst (by decide) (fun v298 kv298 => ?_)
        exact g_iret ⟨_, rfl, hIH282, hJH282, (e283.symm.trans ek0_2), m284, (Or.inl ⟨by omega, by omega⟩)⟩
      · refine g_iload_n rfl ?_
        refine g_bipush (by decide) (fun v299 kv299 => ?_)
        refine g_if2_le (fun c300 => ?_) (fun c300 => ?_)
        · refine g_aload_n rfl ?_
          refine g_iload_n rfl ?_
          refine g_invvv hIH282 sm_0 rfl rfl rfl rfl (r_200 a2 H282 hIH282 hJH282 (fun A t => hp0 A (tk_kp m284 t))) (fun H301 r302 => ?_)
          obtain ⟨hIH301, hJH301, w303, m304, p305⟩ := r302
          have e306 : k0_2 = fZ H301 0 2 := e283.trans w303.symm
          have m307 : kpM H H301 := kpM_t m284 m304
          obtain ⟨A308, tA308, G309, cG309, p310, wdp310, stp310, wyp310, oip310⟩ := p305
          have uA308 : tkW H A308 := tk_kp m284 tA308
          obtain ⟨dpp310, lap310⟩ := (hp0 A308 uA308).2 G309 cG309 p310 stp310.1
          refine g_aload_n rfl ?_
          refine g_gfr hIH301 sm_0 rfl ?_
          refine g_iload_n rfl ?_
          refine g_baload hIH301 sm_7 rfl (by omega) (fun v311 ev311 lv311 uv311 => ?_)
          have yv311 : v311.toInt = (fM A308 G309 p310).2 a1.toInt.toNat := by rw [ev311]; exact (wdp310 _ (by omega)).1
          refine g_if_ne (fun c312 => ?_) (fun c312 => ?_)
          · refine g_aload_n rfl ?_
            refine g_gfr hIH301 sm_0 rfl ?_
            refine g_iload_n rfl ?_
            refine g_baload hIH301 sm_16 rfl (by omega) (fun v313 ev313 lv313 uv313 => ?_)
            have yv313 : v313.toInt = ((fM A308 G309 p310).1).en a1.toInt.toNat := by rw [ev313]; exact (wdp310 _ (by omega)).2.2.2.2.2.2.2.2.2
            refine g_if_eq (fun c314 => ?_) (fun c314 => ?_)
            · refine g_iload_n rfl ?_
              refine g_sw (by decide) (fun c315 => ?_) ⟨fun c315 => ?_, fun c315 => ?_, fun c315 => ?_, fun c315 => ?_, fun c315 => ?_, fun c315 => ?_, fun c315 => ?_, fun c315 => ?_, fun c315 => ?_, trivial⟩
              · refine g_aload_n rfl ?_
                refine g_iload_n rfl ?_
                refine g_invvi hIH301 sm_0 rfl rfl rfl rfl (r_207 a1 (by omega) H301 hIH301 hJH301 wdp310 dpp310) (fun v318 H316 r317 => ?_)
                obtain ⟨rfl, p319⟩ := r317
                exact g_iret ⟨_, rfl, hIH301, (JM_n hJH301), (e306.symm.trans ek0_2), m307, (Or.inr ⟨by omega, ⟨A308, uA308, G309, cG309, p310, stp310,  (tm_9 (by omega) (by omega) (by omega) (by rw [(show ((a1.toInt.toNat : Nat) : Int) = a1.toInt by omega)]; exact p319))⟩⟩)⟩
              · refine g_aload_n rfl ?_
                refine g_gfr hIH301 sm_0 rfl ?_
                refine g_iload_n rfl ?_
                refine g_iaload hIH301 sm_8 rfl (by omega) (fun v320 ev320 lv320 uv320 => ?_)
                have yv320 : v320.toInt = ((fM A308 G309 p310).1).kd a1.toInt.toNat := by rw [ev320]; exact (wdp310 _ (by omega)).2.1
                exact g_iret ⟨_, rfl, hIH301, (JM_n hJH301), (e306.symm.trans ek0_2), m307, (Or.inr ⟨by omega, ⟨A308, uA308, G309, cG309, p310, stp310,  (tm_0 (by omega) (by omega) (by omega) (by omega))⟩⟩)⟩
              · refine g_aload_n rfl ?_
                refine g_gfr hIH301 sm_0 rfl ?_
                refine g_iload_n rfl ?_
                refine g_iaload hIH301 sm_9 rfl (by omega) (fun v321 ev321 lv321 uv321 => ?_)
                have qv321 := JM_in hJH301 (by omega) ev321
                have yv321 : v321.toInt = ((fM A308 G309 p310).1).ii a1.toInt.toNat := by rw [ev321]; exact (wdp310 _ (by omega)).2.2.1
                exact g_iret ⟨_, rfl, hIH301, (JM_n hJH301), (e306.symm.trans ek0_2), m307, (Or.inr ⟨by omega, ⟨A308, uA308, G309, cG309, p310, stp310,  (tm_1 (by omega) (by omega) (by omega) (by omega))⟩⟩)⟩
              · refine g_aload_n rfl ?_
                refine g_iload_n rfl ?_
                refine g_invvi hIH301 sm_0 rfl rfl rfl rfl (r_185 a1 (by omega) H301 hIH301 hJH301 wdp310 dpp310) (fun v324 H322 r323 => ?_)
                obtain ⟨rfl, bv324, p325⟩ := r323
                have tnv324 : v324.toInt.toNat = tp (fM A308 G309 p310).1 a1.toInt.toNat := by omega
                exact g_iret ⟨_, rfl, hIH301, (JM_n hJH301), (e306.symm.trans ek0_2), m307, (Or.inr ⟨by omega, ⟨A308, uA308, G309, cG309, p310, stp310,  (tm_2 (by omega) (by omega) (by omega) (by omega))⟩⟩)⟩
              · refine g_aload_n rfl ?_
                refine g_iload_n rfl ?_
                refine g_invvi hIH301 sm_0 rfl rfl rfl rfl (r_201 a1 (by omega) H301 hIH301 hJH301 wdp310 dpp310) (fun v328 H326 r327 => ?_)
                obtain ⟨rfl, bv328, p329⟩ := r327
                exact g_iret ⟨_, rfl, hIH301, (JM_n hJH301), (e306.symm.trans ek0_2), m307, (Or.inr ⟨by omega, ⟨A308, uA308, G309, cG309, p310, stp310,  (tm_3 (by omega) (by omega) (by omega) (by omega))⟩⟩)⟩
              · refine g_aload_n rfl ?_
                refine g_gfr hIH301 sm_0 rfl ?_
                refine g_iload_n rfl ?_
                refine g_baload hIH301 sm_13 rfl (by omega) (fun v330 ev330 lv330 uv330 => ?_)
                have yv330 : v330.toInt = ((fM A308 G309 p310).1).op a1.toInt.toNat := by rw [ev330]; exact (wdp310 _ (by omega)).2.2.2.2.2.2.1
                refine g_if_eq (fun c331 => ?_) (fun c331 => ?_)
                · refine g_iconst (by decide) (fun v332 kv332 => ?_)
                  refine g_nop ?_
                  exact g_iret ⟨_, rfl, hIH301, (JM_n hJH301), (e306.symm.trans ek0_2), m307, (Or.inr ⟨by omega, ⟨A308, uA308, G309, cG309, p310, stp310,  (tm_4 (by omega) (by omega) (by omega) (by omega))⟩⟩)⟩
                · refine g_iconst (by decide) (fun v333 kv333 => ?_)
                  refine g_goto ?_
                  exact g_iret ⟨_, rfl, hIH301, (JM_n hJH301), (e306.symm.trans ek0_2), m307, (Or.inr ⟨by omega, ⟨A308, uA308, G309, cG309, p310, stp310,  (tm_4 (by omega) (by omega) (by omega) (by omega))⟩⟩)⟩
              · refine g_aload_n rfl ?_
                refine g_gfr hIH301 sm_0 rfl ?_
                refine g_iload_n rfl ?_
                refine g_baload hIH301 sm_14 rfl (by omega) (fun v334 ev334 lv334 uv334 => ?_)
                have yv334 : v334.toInt = ((fM A308 G309 p310).1).he a1.toInt.toNat := by rw [ev334]; exact (wdp310 _ (by omega)).2.2.2.2.2.2.2.1
                refine g_if_eq (fun c335 => ?_) (fun c335 => ?_)
                · refine g_iconst (by decide) (fun v336 kv336 => ?_)
                  refine g_nop ?_
                  exact g_iret ⟨_, rfl, hIH301, (JM_n hJH301), (e306.symm.trans ek0_2), m307, (Or.inr ⟨by omega, ⟨A308, uA308, G309, cG309, p310, stp310,  (tm_5 (by omega) (by omega) (by omega) (by omega))⟩⟩)⟩
                · refine g_iconst (by decide) (fun v337 kv337 => ?_)
                  refine g_goto ?_
                  exact g_iret ⟨_, rfl, hIH301, (JM_n hJH301), (e306.symm.trans ek0_2), m307, (Or.inr ⟨by omega, ⟨A308, uA308, G309, cG309, p310, stp310,  (tm_5 (by omega) (by omega) (by omega) (by omega))⟩⟩)⟩
              · refine g_aload_n rfl ?_
                refine g_gfr hIH301 sm_0 rfl ?_
                refine g_iload_n rfl ?_
                refine g_iaload hIH301 sm_12 rfl (by omega) (fun v338 ev338 lv338 uv338 => ?_)
                have yv338 : v338.toInt = ((fM A308 G309 p310).1).se a1.toInt.toNat := by rw [ev338]; exact (wdp310 _ (by omega)).2.2.2.2.2.1
                exact g_iret ⟨_, rfl, hIH301, (JM_n hJH301), (e306.symm.trans ek0_2), m307, (Or.inr ⟨by omega, ⟨A308, uA308, G309, cG309, p310, stp310,  (tm_6 (by omega) (by omega) (by omega) (by omega))⟩⟩)⟩
              · refine g_aload_n rfl ?_
                refine g_gfr hIH301 sm_0 rfl ?_
                refine g_aload_n rfl ?_
                refine g_iload_n rfl ?_
                refine g_invvi hIH301 sm_0 rfl rfl rfl rfl (r_185 a1 (by omega) H301 hIH301 hJH301 wdp310 dpp310) (fun v341 H339 r340 => ?_)
                obtain ⟨rfl, bv341, p342⟩ := r340
                have tnv341 : v341.toInt.toNat = tp (fM A308 G309 p310).1 a1.toInt.toNat := by omega
                refine g_iaload hIH301 sm_11 rfl (by omega) (fun v343 ev343 lv343 uv343 => ?_)
                have yv343 : v343.toInt = ((fM A308 G309 p310).1).la v341.toInt.toNat := by rw [ev343]; exact (wdp310 _ (by omega)).2.2.2.2.1
                rw [tnv341] at yv343
                exact g_iret ⟨_, rfl, hIH301, (JM_n hJH301), (e306.symm.trans ek0_2), m307, (Or.inr ⟨by omega, ⟨A308, uA308, G309, cG309, p310, stp310,  (tm_7 (by omega) (by omega) (by omega) (by omega))⟩⟩)⟩
              · refine g_aload_n rfl ?_
                refine g_iload_n rfl ?_
                refine g_invvi hIH301 sm_0 rfl rfl rfl rfl (r_188 a1 H301 hIH301 (JM_n hJH301) wdp310) (fun v346 H344 r345 => ?_)
                obtain ⟨rfl, p347⟩ := r345
                exact g_iret ⟨_, rfl, hIH301, (JM_n hJH301), (e306.symm.trans ek0_2), m307, (Or.inr ⟨by omega, ⟨A308, uA308, G309, cG309, p310, stp310,  (tm_8 (by omega) (by omega) (by omega) (by rw [(show ((a1.toInt.toNat : Nat) : Int) = a1.toInt by omega)]; exact p347))⟩⟩)⟩
            · refine g_bipush (by decide) (fun v348 kv348 => ?_)
              exact g_iret ⟨_, rfl, hIH301, (JM_n hJH301), (e306.symm.trans ek0_2), m307, (Or.inr ⟨by omega, ⟨A308, uA308, G309, cG309, p310, stp310,  (tm_b (by omega) (by omega) (by omega))⟩⟩)⟩
          · refine g_bipush (by decide) (fun v349 kv349 => ?_)
            exact g_iret ⟨_, rfl, hIH301, (JM_n hJH301), (e306.symm.trans ek0_2), m307, (Or.inr ⟨by omega, ⟨A308, uA308, G309, cG309, p310, stp310,  (tm_a (by omega) (by omega))⟩⟩)⟩
        · refine g_nop ?_
          refine g_iconst (by decide) (fun v350 kv350 => ?_)
          exact g_iret ⟨_, rfl, hIH282, hJH282, (e283.symm.trans ek0_2), m284, (Or.inl ⟨by omega, by omega⟩)⟩
