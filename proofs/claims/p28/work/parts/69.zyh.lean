theorem sa_kp {H B A : mzH} {P : Nat → Prop} {k : Nat} {x : Int} (kk : kpM H B) (h : ∀ q : Nat, (q : Int) < (aZ B 2 2).toInt → (inM A q ≠ 0 ↔ P q) ∧ hoM A q = upi (fun q => (aZ B 2 (69 + 5 * q)).toInt) k x q) : ∀ q : Nat, (q : Int) < (aZ H 2 2).toInt → (inM A q ≠ 0 ↔ P q) ∧ hoM A q = upi (fun q => (aZ H 2 (69 + 5 * q)).toInt) k x q := fun q hq => by
  have z := h q (by rw [kk.1 2 (by decide)]; exact hq)
  have e : (fun q => (aZ B 2 (69 + 5 * q)).toInt) = fun q => (aZ H 2 (69 + 5 * q)).toInt := by
    funext q
    rw [kk.1 2 (by decide)]
  rw [e] at z
  exact z
theorem ho_up {H B C : mzH} {f : Nat → Int} {k h : Int32} (e : ∀ q : Nat, (q : Int) < (aZ H 2 2).toInt → hoM B q = f q) (hI : gI SM B) (eS : C = sA B 18 k.toInt.toNat h) (hk : 0 ≤ k.toInt ∧ k.toInt ≤ 59) : ∀ q : Nat, (q : Int) < (aZ H 2 2).toInt → hoM C q = upi f k.toInt.toNat h.toInt q := fun q hq => by
  show (aZ C 18 q).toInt = _
  unfold upi
  if c : q = k.toInt.toNat then rw [if_pos c, eS, c, aZ_sA_eq hI sm_18 (by omega)]
  else
    rw [if_neg c, eS, aZ_sA_ne (by omega)]
    exact e q hq
theorem upb {H : mzH} {f : Nat → Int} {k : Nat} {h : Int} (hb : ∀ q : Nat, (q : Int) < (aZ H 2 2).toInt → 0 ≤ f q ∧ f q ≤ 999) (hh : 0 ≤ h ∧ h ≤ 999) : ∀ q : Nat, (q : Int) < (aZ H 2 2).toInt → 0 ≤ upi f k h q ∧ upi f k h q ≤ 999 := fun q hq => by
  unfold upi
  split
  · exact hh
  · exact hb q hq
set_option maxRecDepth 4000 in
set_option maxHeartbeats 4000000 in
/-- M.refusedNow -/
theorem r_224 {A G : mzH} (H : mzH) (hI : gI SM H) (hJ : JN H) (hp0 : odI H A (aZ A 2 2).toInt.toNat) (hp1 : (∀ x : Nat, x < cnM A → (aZ H 20 (odM A x)).toInt = rvM A G x)) : gCall 224 [.ref 0] H (gRi (fun v H' => H = H' ∧ v.toInt = cnt (fun x => ¬ rvM A G x = 0) (cnM A))) := by
  refine gG_call [(0, .ref 0)] ⟨rfl, trivial⟩ ?_
  show gG 3 zB_224 (mzBlk zB_224 0) [(0, .ref 0)] [] H 0 0 _
  refine g_iconst (by decide) (fun v399 kv399 => ?_)
  refine g_istore_n (l' := [(0, .ref 0), (1, .int v399)]) rfl rfl ?_
  refine g_iconst (by decide) (fun v400 kv400 => ?_)
  refine g_istore_n (l' := [(0, .ref 0), (1, .int v399), (2, .int v400)]) rfl rfl ?_
  refine g_nop ?_
  have L403 : ∀ (N : Nat) (v401 : Int32) (v402 : Int32), (0 ≤ v402.toInt ∧ v402.toInt ≤ 60) → v401.toInt = cnt (fun x => ¬ rvM A G x = 0) v402.toInt.toNat → (0 ≤ v401.toInt ∧ v401.toInt ≤ v402.toInt) → (v402.toInt : Int) ≤ (cnM A : Int) → (60 - v402.toInt).toNat < N → gG 3 zB_224 (mzBlk zB_224 1) [(0, .ref 0), (1, .int v401), (2, .int v402)] [] H 0 0 (gRi (fun v H' => H = H' ∧ v.toInt = cnt (fun x => ¬ rvM A G x = 0) (cnM A))) := by
    intro N
    induction N with
    | zero => intro v401 v402 bv402 q1 q2 q3 hmL403; exact absurd hmL403 (Nat.not_lt_zero _)
    | succ N ihL403 =>
      intro v401 v402 bv402 q1 q2 q3 hmL403
      refine g_iload_n rfl ?_
      refine g_aload_n rfl ?_
      refine g_gfi hI sm_0 rfl (fun v404 ev404 lv404 uv404 => ?_)
      have zv404 : v404.toInt = (cnM A : Int) := by rw [ev404]; exact od_n hp0
      refine g_if2_ge (fun c405 => ?_) (fun c405 => ?_)
      · refine g_iload_n rfl ?_
        exact g_iret ⟨_, rfl, rfl, (by rw [show cnM A = v402.toInt.toNat by omega]; exact q1)⟩
      · refine g_iload_n rfl ?_
        refine g_aload_n rfl ?_
        refine g_gfr hI sm_0 rfl ?_
        refine g_aload_n rfl ?_
        refine g_gfr hI sm_0 rfl ?_
        refine g_iload_n rfl ?_
        refine g_iaload hI sm_19 rfl (by omega) (fun v406 ev406 lv406 uv406 => ?_)
        have zkv406 : v406.toInt.toNat = odM A v402.toInt.toNat := by rw [ev406]; exact od_g hp0 (by omega)
        refine g_iaload hI sm_20 rfl (by omega) (fun v407 ev407 lv407 uv407 => ?_)
        have yv407 : v407.toInt = rvM A G v402.toInt.toNat := by rw [ev407, zkv406]; exact hp1 _ (by omega)
        refine g_if_ne (fun c408 => ?_) (fun c408 => ?_)
        · refine g_iconst (by decide) (fun v409 kv409 => ?_)
          refine g_nop ?_
          refine g_iadd' (fun v410 ov410 => ?_)
          have sv410 : v410.toInt = v401.toInt + v409.toInt := gz_add_of ov410 (by omega)
          refine g_istore_n (l' := [(0, .ref 0), (1, .int v410), (2, .int v402)]) rfl rfl ?_
          refine g_iinc (l' := (fun v411 => [(0, .ref 0), (1, .int v410), (2, .int v411)])) rfl rfl (by decide) (by omega) (fun _ => rfl) (fun v411 ev411 => ?_)
          refine g_goto ?_
          exact ihL403 v410 v411 (by omega) (cn_y q1 (by omega) (by show ¬ rvM A G v402.toInt.toNat = 0; omega) (by omega)) (by omega) (by omega) (by omega)
        · refine g_iconst (by decide) (fun v412 kv412 => ?_)
          refine g_goto ?_
          refine g_iadd (by have := gz_any v401; omega) (fun v413 ev413 => ?_)
          refine g_istore_n (l' := [(0, .ref 0), (1, .int v413), (2, .int v402)]) rfl rfl ?_
          refine g_iinc (l' := (fun v414 => [(0, .ref 0), (1, .int v413), (2, .int v414)])) rfl rfl (by decide) (by omega) (fun _ => rfl) (fun v414 ev414 => ?_)
          refine g_goto ?_
          exact ihL403 v413 v414 (by omega) (cn_n q1 (by omega) (by show ¬ ¬ rvM A G v402.toInt.toNat = 0; omega) (by omega)) (by omega) (by omega) (by omega)
  exact L403 _ v399 v400 (by omega) (cn_0 (by omega) (by omega)) (by omega) (by omega) (Nat.lt_succ_self _)
set_option maxRecDepth 4000 in
set_option maxHeartbeats 4000000 in
/-- M.runsAt -/
theorem r_232 (a1 : Int32) (ha1 : 0 ≤ a1.toInt ∧ a1.toInt ≤ 59) (a2 : Int32) (ha2 : 0 ≤ a2.toInt ∧ a2.toInt ≤ 999) (H : mzH) (hI : gI SM H) (hJ : JN H) (hp0 : ((∀ A, tkQ H A → gdM A))) (hp1 : (∀ k : Nat, (k : Int) < (aZ H 2 2).toInt → 0 ≤ (aZ H 2 (69 + 5 * k)).toInt ∧ (aZ H 2 (69 + 5 * k)).toInt ≤ 999)) : gCall 232 [.ref 0, .int a1, .int a2] H (gRv (fun H' => gI SM H' ∧ JM H' ∧ fZ H' 0 2 = fZ H 0 2 ∧ kpM H H' ∧ (∃ A : mzH, tkQ H A ∧ (∀ q : Nat, (q : Int) < (aZ H 2 2).toInt → (inM A q ≠ 0 ↔ True) ∧ hoM A q = upi (fun q => (aZ H 2 (69 + 5 * q)).toInt) a1.toInt.toNat a2.toInt q) ∧ ∃ G : mzH, clR (rgM G) (mdM G) ∧ rwX H' (fM A G (cnM A)).1 (fM A G (cnM A)).2 ∧ (∀ x : Nat, x < cnM A → (aZ H' 20 (odM A x)).toInt = rvM A G x) ∧ odI H' A (aZ A 2 2).toInt.toNat))) := by
  obtain ⟨k0_2, ek0_2⟩ : ∃ z, z = fZ H 0 2 := ⟨_, rfl⟩
  have ik0_2 : k0_2.toInt = (fZ H 0 2).toInt := by rw [← ek0_2]
  have bk0_2 : 0 ≤ k0_2.toInt ∧ k0_2.toInt ≤ 900 := by rw [ek0_2]; exact fZ_of hI sm_0 rfl
  have mkfr : kpM H H := kpM_r
  refine gG_call [(0, .ref 0), (1, .int a1), (2, .int a2)] ⟨rfl, rfl, rfl, trivial⟩ ?_
  show gG 3 zB_232 (mzBlk zB_232 0) [(0, .ref 0), (1, .int a1), (2, .int a2)] [] H 0 0 _
  refine g_aload_n rfl ?_
  refine g_invvv hI sm_0 rfl rfl rfl rfl (r_182 H hI hJ) (fun H121 r122 => ?_)
  obtain ⟨hIH121, hJH121, m123, m124, m125, m126, p127, p128⟩ := r122
  have e129 : k0_2 = fZ H121 0 2 := ek0_2.trans (m123 0 2).symm
  have m130 : kpM H H121 := kpM_t mkfr m125
  have tH121 : tkW H H121 := tk_kp mkfr ⟨m125, m124, p128⟩
  refine g_aload_n rfl ?_
  refine g_gfr hIH121 sm_0 rfl ?_
  refine g_iload_n rfl ?_
  refine g_iload_n rfl ?_
  refine g_iastore hIH121 sm_18 (by omega) (gz_any _) (fun H131 eH131 hIH131 => ?_)
  have hJH131 : JN H131 := JN_sA (by decide) eH131 hJH121
  have e132 : k0_2 = fZ H131 0 2 := by rw [eH131, fZ_sA]; exact e129
  have m133 : kpM H H131 := kpM_A m130 eH131 (by omega)
  have xm134 : (∀ i, aZ H131 17 i = aZ H121 17 i) := fun i => (by rw [eH131, aZ_sA_nc (by decide)] : aZ H131 17 i = aZ H121 17 i).trans ((fun _ => rfl) i)
  refine g_aload_n rfl ?_
  refine g_sipush (by decide) (fun v135 kv135 => ?_)
  have hoH131 : ∀ q : Nat, (q : Int) < (aZ H 2 2).toInt → hoM H131 q = (upi (fun q => (aZ H 2 (69 + 5 * q)).toInt) a1.toInt.toNat a2.toInt) q := (ho_up (fun q hq => (tH121.2.2 q hq).1) hIH121 eH131 (by omega))
  have inH131 : ∀ q : Nat, (q : Int) < (aZ H 2 2).toInt → inM H131 q ≠ 0 := fun q hq => by rw [show inM H131 q = 1 by show (aZ H131 17 q).toInt = 1; rw [show aZ H131 17 q = aZ H121 17 q from xm134 q]; exact (tH121.2.2 q hq).2]; decide
  have tqH131 : tkQ H H131 := ⟨m133, fun i => m133.1 2 (by decide) i, fun q hq => by rw [hoH131 q hq]; exact (upb hp1 (by omega)) q hq⟩
  refine g_invvv hIH131 sm_0 rfl rfl rfl rfl (r_198 v135 H131 hIH131 hJH131 (hp0 H131 tqH131)) (fun H136 r137 => ?_)
  obtain ⟨hIH136, hJH136, w138, m139, m140, m141, m142, m143, p144, p145⟩ := r137
  have e146 : k0_2 = fZ H136 0 2 := e132.trans w138.symm
  have m147 : kpM H H136 := kpM_t m133 m141
  have xm148 : (∀ i, aZ H136 17 i = aZ H121 17 i) := fun i => (m140 i : aZ H136 17 i = aZ H131 17 i).trans (xm134 i)
  obtain ⟨G149, clG149, p150, wdp150, stp150, wyp150, oip150⟩ := p145
  rw [kv135] at stp150
  obtain rfl := st_all (hp0 H131 tqH131) stp150
  exact g_ret ⟨rfl, hIH136, hJH136, (e146.symm.trans ek0_2), m147, ⟨H131, tqH131, fun q hq => ⟨iff_of_true (inH131 q hq) trivial, hoH131 q hq⟩, G149, clG149, wdp150, wyp150, oip150⟩⟩
set_option maxRecDepth 4000 in
set_option maxHeartbeats 4000000 in
/-- M.ifAt -/
theorem r_233 (a1 : Int32) (a2 : Int32) (a3 : Int32) (H : mzH) (hI : gI SM H) (hJ : JN H) (hp0 : ((∀ A, tkQ H A → gdM A))) (hp1 : (∀ k : Nat, (k : Int) < (aZ H 2 2).toInt → 0 ≤ (aZ H 2 (69 + 5 * k)).toInt ∧ (aZ H 2 (69 + 5 * k)).toInt ≤ 999)) : gCall 233 [.ref 0, .int a1, .int a2, .int a3] H (gRi (fun v H' => gI SM H' ∧ JN H' ∧ fZ H' 0 2 = fZ H 0 2 ∧ kpM H H' ∧ ((v.toInt = -1000 ∧ ¬ ((0 ≤ a1.toInt ∧ a1.toInt < (aZ H 2 2).toInt) ∧ (0 ≤ a2.toInt ∧ a2.toInt ≤ 999) ∧ (-1 ≤ a3.toInt ∧ a3.toInt < 40))) ∨ (((0 ≤ a1.toInt ∧ a1.toInt < (aZ H 2 2).toInt) ∧ (0 ≤ a2.toInt ∧ a2.toInt ≤ 999) ∧ (-1 ≤ a3.toInt ∧ a3.toInt < 40)) ∧ (∃ A : mzH, tkQ H A ∧ (∀ q : Nat, (q : Int) < (aZ H 2 2).toInt → (inM A q ≠ 0 ↔ True) ∧ hoM A q = upi (fun q => (aZ H 2 (69 + 5 * q)).toInt) a1.toInt.toNat a2.toInt q) ∧ ∃ G : mzH, clR (rgM G) (mdM G) ∧ v.toInt = (if a3.toInt < 0 then cnt (fun x => ¬ rvM A G x = 0) (cnM A) else whM (fM A G (cnM A)).1 (fM A G (cnM A)).2 a3.toInt.toNat)))))) := by
  obtain ⟨k0_2, ek0_2⟩ : ∃ z, z = fZ H 0 2 := ⟨_, rfl⟩
  have ik0_2 : k0_2.toInt = (fZ H 0 2).toInt := by rw [← ek0_2]
  have bk0_2 : 0 ≤ k0_2.toInt ∧ k0_2.toInt ≤ 900 := by rw [ek0_2]; exact fZ_of hI sm_0 rfl
  have mkfr : kpM H H := kpM_r
  refine gG_call [(0, .ref 0), (1, .int a1), (2, .int a2), (3, .int a3)] ⟨rfl, rfl, rfl, rfl, trivial⟩ ?_
  show gG 4 zB_233 (mzBlk zB_233 0) [(0, .ref 0), (1, .int a1), (2, .int a2), (3, .int a3)] [] H 0 0 _
  refine g_aload_n rfl ?_
  refine g_iconst (by decide) (fun v225 kv225 => ?_)
  refine g_pfi hI sm_0 rfl (gz_any _) (fun H226 eH226 hIH226 => ?_)
  have hJH226 : JN H226 := JN_sF eH226 hJ
  have e227 : k0_2 = fZ H226 0 2 := by rw [eH226, fZ_sF_ne (by decide)]; exact ek0_2
  have m228 : kpM H H226 := kpM_F mkfr eH226 (by omega)
  refine g_iload_n rfl ?_
  refine g_if_lt (fun c229 => ?_) (fun c229 => ?_)
  · refine g_sipush (by decide) (fun v230 kv230 => ?_)
    exact g_iret ⟨_, rfl, hIH226, hJH226, (e227.symm.trans ek0_2), m228, (Or.inl ⟨by omega, by omega⟩)⟩
  · refine g_iload_n rfl ?_
    refine g_aload_n rfl ?_
    refine g_invvi hIH226 sm_0 rfl rfl rfl rfl (s_180 H226 hIH226 hJH226) (fun v233 H231 r232 => ?_)
    obtain ⟨rfl, bv233, p234⟩ := r232
    have hm2 := congrArg Int32.toInt (m228.1 2 (by decide) 2)
    refine g_if2_ge (fun c235 => ?_) (fun c235 => ?_)
    · refine g_sipush (by decide) (fun v236 kv236 => ?_)
      exact g_iret ⟨_, rfl, hIH226, hJH226, (e227.symm.trans ek0_2), m228, (Or.inl ⟨by omega, by omega⟩)⟩
    · refine g_iload_n rfl ?_
      refine g_invti rfl rfl rfl (r_206 a2 H226 hIH226 hJH226) (fun v239 H237 r238 => ?_)
      obtain ⟨rfl, bv239, p240⟩ := r238
      refine g_if_eq (fun c241 => ?_) (fun c241 => ?_)
      · refine g_sipush (by decide) (fun v242 kv242 => ?_)
        exact g_iret ⟨_, rfl, hIH226, hJH226, (e227.symm.trans ek0_2), m228, (Or.inl ⟨by omega, by omega⟩)⟩
      · refine g_iload_n rfl ?_
        refine g_iconst (by decide) (fun v243 kv243 => ?_)
        refine g_if2_eq (fun c244 => ?_) (fun c244 => ?_)
        · refine g_aload_n rfl ?_
          refine g_iload_n rfl ?_
          refine g_iload_n rfl ?_
          refine g_invvv hIH226 sm_0 rfl rfl rfl rfl (r_232 a1 (by omega) a2 (by omega) H226 hIH226 hJH226 (fun A t => hp0 A (tkQ_kp m228 t)) (hr_kp m228 hp1)) (fun H245 r246 => ?_)
          obtain ⟨hIH245, hJH245, w247, m248, p249⟩ := r246
          have e250 : k0_2 = fZ H245 0 2 := e227.trans w247.symm
          have m251 : kpM H H245 := kpM_t m228 m248
          obtain ⟨A252, ttA252, sbA252, G253, clG253, wdA252, wyA252, oiA252⟩ := p249
          have uA252 : tkQ H A252 := tkQ_kp m228 ttA252
          have scA252 := sa_kp m228 sbA252
          obtain ⟨dppA252, lapA252⟩ := (hp0 A252 uA252).2 G253 clG253 (cnM A252) (Nat.le_refl _)
          refine g_iload_n rfl ?_
          refine g_iconst (by decide) (fun v254 kv254 => ?_)
          refine g_if2_ne (fun c255 => ?_) (fun c255 => ?_)
          · exfalso; omega
          · refine g_aload_n rfl ?_
            refine g_invvi hIH245 sm_0 rfl rfl rfl rfl (r_224 H245 hIH245 (JM_n hJH245) oiA252 wyA252) (fun v258 H256 r257 => ?_)
            obtain ⟨rfl, p259⟩ := r257
            refine g_goto ?_
            exact g_iret ⟨_, rfl, hIH245, (JM_n hJH245), (e250.symm.trans ek0_2), m251, (Or.inr ⟨by omega, A252, uA252, scA252, G253, clG253, by rw [if_pos (by omega)]; exact p259⟩)⟩
        · refine g_iload_n rfl ?_
          refine g_invti rfl rfl rfl (r_205 a3 H226 hIH226 hJH226) (fun v262 H260 r261 => ?_)
          obtain ⟨rfl, bv262, p263⟩ := r261
          refine g_if_ne (fun c264 => ?_) (fun c264 => ?_)
          · refine g_aload_n rfl ?_
            refine g_iload_n rfl ?_
            refine g_iload_n rfl ?_
            refine g_invvv hIH226 sm_0 rfl rfl rfl rfl (r_232 a1 (by omega) a2 (by omega) H226 hIH226 hJH226 (fun A t => hp0 A (tkQ_kp m228 t)) (hr_kp m228 hp1)) (fun H265 r266 => ?_)
            obtain ⟨hIH265, hJH265, w267, m268, p269⟩ := r266
            have e270 : k0_2 = fZ H265 0 2 := e227.trans w267.symm
            have m271 : kpM H H265 := kpM_t m228 m268
            obtain ⟨A272, ttA272, sbA272, G273, clG273, wdA272, wyA272, oiA272⟩ := p269
            have uA272 : tkQ H A272 := tkQ_kp m228 ttA272
            have scA272 := sa_kp m228 sbA272
            obtain ⟨dppA272, lapA272⟩ := (hp0 A272 uA272).2 G273 clG273 (cnM A272) (Nat.le_refl _)
            refine g_iload_n rfl ?_
            refine g_iconst (by decide) (fun v274 kv274 => ?_)
            refine g_if2_ne (fun c275 => ?_) (fun c275 => ?_)
            · refine g_aload_n rfl ?_
              refine g_iload_n rfl ?_
              refine g_invvi hIH265 sm_0 rfl rfl rfl rfl (r_201 a3 (by omega) H265 hIH265 hJH265 wdA272 dppA272) (fun v278 H276 r277 => ?_)
              obtain ⟨rfl, bv278, p279⟩ := r277
              refine g_nop ?_
              exact g_iret ⟨_, rfl, hIH265, (JM_n hJH265), (e270.symm.trans ek0_2), m271, (Or.inr ⟨by omega, A272, uA272, scA272, G273, clG273, by rw [if_neg (by omega)]; exact p279⟩)⟩
            · exfalso; omega
          · refine g_nop ?_
            refine g_sipush (by decide) (fun v280 kv280 => ?_)
            exact g_iret ⟨_, rfl, hIH226, hJH226, (e227.symm.trans ek0_2), m228, (Or.inl ⟨by omega, by omega⟩)⟩
