set_option maxRecDepth 4000 in
set_option maxHeartbeats 4000000 in
/-- M.inside -/
theorem r_209 (a1 : Int32) (a2 : Int32) (a3 : Int32) (H : mzH) (hI : gI SM H) (hJ : JN H) (hp0 : ((∀ A, tkW H A → gdM A))) : gCall 209 [.ref 0, .int a1, .int a2, .int a3] H (gRi (fun v H' => gI SM H' ∧ JN H' ∧ fZ H' 0 2 = fZ H 0 2 ∧ kpM H H' ∧ ((v.toInt = -1 ∧ ¬ ((0 ≤ a1.toInt ∧ a1.toInt ≤ 39) ∧ (0 ≤ a2.toInt ∧ a2.toInt ≤ 999) ∧ 0 ≤ a3.toInt)) ∨ (((0 ≤ a1.toInt ∧ a1.toInt ≤ 39) ∧ (0 ≤ a2.toInt ∧ a2.toInt ≤ 999) ∧ 0 ≤ a3.toInt) ∧ ∃ A : mzH, tkW H A ∧ ∃ G : mzH, clR (rgM G) (mdM G) ∧ ∃ p : Nat, stM A a2.toInt p ∧ v.toInt = pkF (fun x => inn (fM A G p).1 x a1.toInt) 40 0 a3.toInt)))) := by
  obtain ⟨k0_2, ek0_2⟩ : ∃ z, z = fZ H 0 2 := ⟨_, rfl⟩
  have ik0_2 : k0_2.toInt = (fZ H 0 2).toInt := by rw [← ek0_2]
  have bk0_2 : 0 ≤ k0_2.toInt ∧ k0_2.toInt ≤ 900 := by rw [ek0_2]; exact fZ_of hI sm_0 rfl
  have mkfr : kpM H H := kpM_r
  refine gG_call [(0, .ref 0), (1, .int a1), (2, .int a2), (3, .int a3)] ⟨rfl, rfl, rfl, rfl, trivial⟩ ?_
  show gG 6 zB_209 (mzBlk zB_209 0) [(0, .ref 0), (1, .int a1), (2, .int a2), (3, .int a3)] [] H 0 0 _
  refine g_aload_n rfl ?_
  refine g_iconst (by decide) (fun v313 kv313 => ?_)
  refine g_pfi hI sm_0 rfl (gz_any _) (fun H314 eH314 hIH314 => ?_)
  have hJH314 : JN H314 := JN_sF eH314 hJ
  have e315 : k0_2 = fZ H314 0 2 := by rw [eH314, fZ_sF_ne (by decide)]; exact ek0_2
  have m316 : kpM H H314 := kpM_F mkfr eH314 (by omega)
  refine g_iload_n rfl ?_
  refine g_invti rfl rfl rfl (r_205 a1 H314 hIH314 hJH314) (fun v319 H317 r318 => ?_)
  obtain ⟨rfl, bv319, p320⟩ := r318
  refine g_if_eq (fun c321 => ?_) (fun c321 => ?_)
  · refine g_iconst (by decide) (fun v322 kv322 => ?_)
    exact g_iret ⟨_, rfl, hIH314, hJH314, (e315.symm.trans ek0_2), m316, (Or.inl ⟨by omega, by omega⟩)⟩
  · refine g_iload_n rfl ?_
    refine g_invti rfl rfl rfl (r_206 a2 H314 hIH314 hJH314) (fun v325 H323 r324 => ?_)
    obtain ⟨rfl, bv325, p326⟩ := r324
    refine g_if_eq (fun c327 => ?_) (fun c327 => ?_)
    · refine g_iconst (by decide) (fun v328 kv328 => ?_)
      exact g_iret ⟨_, rfl, hIH314, hJH314, (e315.symm.trans ek0_2), m316, (Or.inl ⟨by omega, by omega⟩)⟩
    · refine g_iload_n rfl ?_
      refine g_if_ge (fun c329 => ?_) (fun c329 => ?_)
      · refine g_aload_n rfl ?_
        refine g_iload_n rfl ?_
        refine g_invvv hIH314 sm_0 rfl rfl rfl rfl (r_200 a2 H314 hIH314 hJH314 (fun A t => hp0 A (tk_kp m316 t))) (fun H330 r331 => ?_)
        obtain ⟨hIH330, hJH330, w332, m333, p334⟩ := r331
        have e335 : k0_2 = fZ H330 0 2 := e315.trans w332.symm
        have m336 : kpM H H330 := kpM_t m316 m333
        obtain ⟨A337, tA337, G338, cG338, p339, wdp339, stp339, wyp339, oip339⟩ := p334
        have uA337 : tkW H A337 := tk_kp m316 tA337
        obtain ⟨dpp339, lap339⟩ := (hp0 A337 uA337).2 G338 cG338 p339 stp339.1
        refine g_iload_n rfl ?_
        refine g_istore (l' := [(0, .ref 0), (1, .int a1), (2, .int a2), (3, .int a3), (4, .int a3)]) rfl rfl ?_
        refine g_iconst (by decide) (fun v340 kv340 => ?_)
        refine g_istore (l' := [(0, .ref 0), (1, .int a1), (2, .int a2), (3, .int a3), (4, .int a3), (5, .int v340)]) rfl rfl ?_
        refine g_nop ?_
        have L343 : ∀ (N : Nat) (v341 : Int32) (v342 : Int32), (0 ≤ v341.toInt ∧ v341.toInt ≤ 2147483647) → (0 ≤ v342.toInt ∧ v342.toInt ≤ 40) → pkF (fun x => inn (fM A337 G338 p339).1 x a1.toInt) (40 - v342.toInt.toNat) v342.toInt.toNat v341.toInt = pkF (fun x => inn (fM A337 G338 p339).1 x a1.toInt) 40 0 a3.toInt → (40 - v342.toInt).toNat < N → gG 6 zB_209 (mzBlk zB_209 3) [(0, .ref 0), (1, .int a1), (2, .int a2), (3, .int a3), (4, .int v341), (5, .int v342)] [] H330 0 0 (gRi (fun v H' => gI SM H' ∧ JN H' ∧ fZ H' 0 2 = fZ H 0 2 ∧ kpM H H' ∧ ((v.toInt = -1 ∧ ¬ ((0 ≤ a1.toInt ∧ a1.toInt ≤ 39) ∧ (0 ≤ a2.toInt ∧ a2.toInt ≤ 999) ∧ 0 ≤ a3.toInt)) ∨ (((0 ≤ a1.toInt ∧ a1.toInt ≤ 39) ∧ (0 ≤ a2.toInt ∧ a2.toInt ≤ 999) ∧ 0 ≤ a3.toInt) ∧ ∃ A : mzH, tkW H A ∧ ∃ G : mzH, clR (rgM G) (mdM G) ∧ ∃ p : Nat, stM A a2.toInt p ∧ v.toInt = pkF (fun x => inn (fM A G p).1 x a1.toInt) 40 0 a3.toInt)))) := by
          intro N
          induction N with
          | zero => intro v341 v342 bv341 bv342 q1 hmL343; exact absurd hmL343 (Nat.not_lt_zero _)
          | succ N ihL343 =>
            intro v341 v342 bv341 bv342 q1 hmL343
            refine g_iload rfl ?_
            refine g_bipush (by decide) (fun v344 kv344 => ?_)
            refine g_if2_ge (fun c345 => ?_) (fun c345 => ?_)
            · refine g_bipush (by decide) (fun v346 kv346 => ?_)
              exact g_iret ⟨_, rfl, hIH330, (JM_n hJH330), (e335.symm.trans ek0_2), m336, (Or.inr ⟨by omega, ⟨A337, uA337, G338, cG338, p339, stp339,  (by rw [pk_e q1 (by omega)]; omega)⟩⟩)⟩
            · refine g_aload_n rfl ?_
              refine g_iload rfl ?_
              refine g_iload_n rfl ?_
              refine g_invvi hIH330 sm_0 rfl rfl rfl rfl (r_186 v342 (by omega) a1 (by omega) H330 hIH330 hJH330 wdp339 dpp339) (fun v349 H347 r348 => ?_)
              obtain ⟨rfl, bv349, p350⟩ := r348
              have ibv349 := inn_b (s := (fM A337 G338 p339).1) (n := v342.toInt.toNat) (o := a1.toInt)
              refine g_if_ne (fun c351 => ?_) (fun c351 => ?_)
              · refine g_iload rfl ?_
                refine g_if_ne (fun c352 => ?_) (fun c352 => ?_)
                · refine g_iinc (l' := (fun v353 => [(0, .ref 0), (1, .int a1), (2, .int a2), (3, .int a3), (4, .int v353), (5, .int v342)])) rfl rfl (by decide) (by have := gz_any v341; omega) (fun _ => rfl) (fun v353 ev353 => ?_)
                  refine g_nop ?_
                  refine g_iinc (l' := (fun v354 => [(0, .ref 0), (1, .int a1), (2, .int a2), (3, .int a3), (4, .int v353), (5, .int v354)])) rfl rfl (by decide) (by omega) (fun _ => rfl) (fun v354 ev354 => ?_)
                  refine g_goto ?_
                  exact ihL343 v353 v354 (by have := gz_any v353; omega) (by omega) (pk_s q1 (by show inn (fM A337 G338 p339).1 v342.toInt.toNat a1.toInt = 1; omega) (by omega) (by omega) (by omega) (by omega)) (by omega)
                · refine g_iload rfl ?_
                  exact g_iret ⟨_, rfl, hIH330, (JM_n hJH330), (e335.symm.trans ek0_2), m336, (Or.inr ⟨by omega, ⟨A337, uA337, G338, cG338, p339, stp339,  (by rw [← q1, pk_y (by show inn (fM A337 G338 p339).1 v342.toInt.toNat a1.toInt = 1; omega) (by omega) (by omega)]; omega)⟩⟩)⟩
              · refine g_goto ?_
                refine g_iinc (l' := (fun v355 => [(0, .ref 0), (1, .int a1), (2, .int a2), (3, .int a3), (4, .int v341), (5, .int v355)])) rfl rfl (by decide) (by omega) (fun _ => rfl) (fun v355 ev355 => ?_)
                refine g_goto ?_
                exact ihL343 v341 v355 (by have := gz_any v341; omega) (by omega) (pk_n q1 (by show ¬ inn (fM A337 G338 p339).1 v342.toInt.toNat a1.toInt = 1; omega) (by omega) (by omega) (by omega)) (by omega)
        exact L343 _ a3 v340 (by have := gz_any a3; omega) (by omega) (by rw [show (40 - v340.toInt.toNat) = 40 by omega, show v340.toInt.toNat = 0 by omega]) (Nat.lt_succ_self _)
      · refine g_nop ?_
        refine g_iconst (by decide) (fun v356 kv356 => ?_)
        exact g_iret ⟨_, rfl, hIH314, hJH314, (e315.symm.trans ek0_2), m316, (Or.inl ⟨by omega, by omega⟩)⟩
