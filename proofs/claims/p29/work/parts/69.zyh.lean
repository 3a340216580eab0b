theorem sa_kp {H B A : mzH} {P : Nat → Prop} {k : Nat} {x : Int} (kk : kpM H B) (h : ∀ q : Nat, (q : Int) < (aZ B 2 2).toInt → (inM A q ≠ 0 ↔ P q) ∧ hoM A q = upi (fun q => (aZ B 2 (69 + 5 * q)).toInt) k x q) : ∀ q : Nat, (q : Int) < (aZ H 2 2).toInt → (inM A q ≠ 0 ↔ P q) ∧ hoM A q = upi (fun q => (aZ H 2 (69 + 5 * q)).toInt) k x q := fun q hq => by
  have z := h q (by rw [kk.1 2 (by decide)]; exact hq)
  have e : (fun q => (aZ B 2 (69 + 5 * q)).toInt) = fun q => (aZ H 2 (69 + 5 * q)).toInt := by
    funext q
    rw [kk.1 2 (by decide)]
  rw [e] at z
  exact z
theorem ho_up {H B C : mzH} {f : Nat → Int} {k h : Int32} (e : ∀ q : Nat, (q : Int) < (aZ H 2 2).toInt → hoM B q = f q) (hI : gI SM B) (eS : C = sA B 18 k.toInt.toNat h) (hk : 0 ≤ k.toInt ∧ k.toInt ≤ 59) : ∀ q : Nat, (q : Int) < (aZ H 2 2).toInt → hoM C q = upi f k.toInt.toNat h.toInt q := fun q hq => by
  show (aZ C 18 q).toInt = _
  unfold upi
  if c : q = k.toInt.toNat then rw [if_pos c, eS, c, aZ_sA_eq hI sm_18 (by omega)]
  else
    rw [if_neg c, eS, aZ_sA_ne (by omega)]
    exact e q hq
theorem upb {H : mzH} {f : Nat → Int} {k : Nat} {h : Int} (hb : ∀ q : Nat, (q : Int) < (aZ H 2 2).toInt → 0 ≤ f q ∧ f q ≤ 999) (hh : 0 ≤ h ∧ h ≤ 999) : ∀ q : Nat, (q : Int) < (aZ H 2 2).toInt → 0 ≤ upi f k h q ∧ upi f k h q ≤ 999 := fun q hq => by
  unfold upi
  split
  · exact hh
  · exact hb q hq
set_option maxRecDepth 4000 in
set_option maxHeartbeats 4000000 in
/-- M.runsAt -/
theorem r_232 (a1 : Int32) (ha1 : 0 ≤ a1.toInt ∧ a1.toInt ≤ 59) (a2 : Int32) (ha2 : 0 ≤ a2.toInt ∧ a2.toInt ≤ 999) (H : mzH) (hI : gI SM H) (hJ : JN H) (hp0 : ((∀ A, tkQ H A → gdM A))) (hp1 : (∀ k : Nat, (k : Int) < (aZ H 2 2).toInt → 0 ≤ (aZ H 2 (69 + 5 * k)).toInt ∧ (aZ H 2 (69 + 5 * k)).toInt ≤ 999)) : gCall 232 [.ref 0, .int a1, .int a2] H (gRv (fun H' => gI SM H' ∧ JM H' ∧ fZ H' 0 2 = fZ H 0 2 ∧ kpM H H' ∧ (∃ A : mzH, tkQ H A ∧ (∀ q : Nat, (q : Int) < (aZ H 2 2).toInt → (inM A q ≠ 0 ↔ True) ∧ hoM A q = upi (fun q => (aZ H 2 (69 + 5 * q)).toInt) a1.toInt.toNat a2.toInt q) ∧ ∃ G : mzH, clR (rgM G) (mdM G) ∧ rwX H' (fM A G (cnM A)).1 (fM A G (cnM A)).2 ∧ (∀ x : Nat, x < cnM A → (aZ H' 20 (odM A x)).toInt = rvM A G x) ∧ odI H' A (aZ A 2 2).toInt.toNat))) := by
  obtain ⟨k0_2, ek0_2⟩ : ∃ z, z = fZ H 0 2 := ⟨_, rfl⟩
  have ik0_2 : k0_2.toInt = (fZ H 0 2).toInt := by rw [← ek0_2]
  have bk0_2 : 0 ≤ k0_2.toInt ∧ k0_2.toInt ≤ 900 := by rw [ek0_2]; exact fZ_of hI sm_0 rfl
  have mkfr : kpM H H := kpM_r
  refine gG_call [(0, .ref 0), (1, .int a1), (2, .int a2)] ⟨rfl, rfl, rfl, trivial⟩ ?_
  show gG 3 zB_232 (mzBlk zB_232 0) [(0, .ref 0), (1, .int a1), (2, .int a2)] [] H 0 0 _
  refine g_aload_n rfl ?_
  refine g_invvv hI sm_0 rfl rfl rfl rfl (r_182 H hI hJ) (fun H121 r122 => ?_)
  obtain ⟨hIH121, hJH121, m123, m124, m125, m126, p127, p128⟩ := r122
  have e129 : k0_2 = fZ H121 0 2 := ek0_2.trans (m123 0 2).symm
  have m130 : kpM H H121 := kpM_t mkfr m125
  have tH121 : tkW H H121 := tk_kp mkfr ⟨m125, m124, p128⟩
  refine g_aload_n rfl ?_
  refine g_gfr hIH121 sm_0 rfl ?_
  refine g_iload_n rfl ?_
  refine g_iload_n rfl ?_
  refine g_iastore hIH121 sm_18 (by omega) (gz_any _) (fun H131 eH131 hIH131 => ?_)
  have hJH131 : JN H131 := JN_sA (by decide) eH131 hJH121
  have e132 : k0_2 = fZ H131 0 2 := by rw [eH131, fZ_sA]; exact e129
  have m133 : kpM H H131 := kpM_A m130 eH131 (by omega)
  have xm134 : (∀ i, aZ H131 17 i = aZ H121 17 i) := fun i => (by rw [eH131, aZ_sA_nc (by decide)] : aZ H131 17 i = aZ H121 17 i).trans ((fun _ => rfl) i)
  refine g_aload_n rfl ?_
  refine g_sipush (by decide) (fun v135 kv135 => ?_)
  have hoH131 : ∀ q : Nat, (q : Int) < (aZ H 2 2).toInt → hoM H131 q = (upi (fun q => (aZ H 2 (69 + 5 * q)).toInt) a1.toInt.toNat a2.toInt) q := (ho_up (fun q hq => (tH121.2.2 q hq).1) hIH121 eH131 (by omega))
  have inH131 : ∀ q : Nat, (q : Int) < (aZ H 2 2).toInt → inM H131 q ≠ 0 := fun q hq => by rw [show inM H131 q = 1 by show (aZ H131 17 q).toInt = 1; rw [show aZ H131 17 q = aZ H121 17 q from xm134 q]; exact (tH121.2.2 q hq).2]; decide
  have tqH131 : tkQ H H131 := ⟨m133, fun i => m133.1 2 (by decide) i, fun q hq => by rw [hoH131 q hq]; exact (upb hp1 (by omega)) q hq⟩
  refine g_invvv hIH131 sm_0 rfl rfl rfl rfl (r_198 v135 H131 hIH131 hJH131 (hp0 H131 tqH131)) (fun H136 r137 => ?_)
  obtain ⟨hIH136, hJH136, w138, m139, m140, m141, m142, m143, p144, p145⟩ := r137
  have e146 : k0_2 = fZ H136 0 2 := e132.trans w138.symm
  have m147 : kpM H H136 := kpM_t m133 m141
  have xm148 : (∀ i, aZ H136 17 i = aZ H121 17 i) := fun i => (m140 i : aZ H136 17 i = aZ H131 17 i).trans (xm134 i)
  obtain ⟨G149, clG149, p150, wdp150, stp150, wyp150, oip150⟩ := p145
  rw [kv135] at stp150
  obtain rfl := st_all (hp0 H131 tqH131) stp150
  exact g_ret ⟨rfl, hIH136, hJH136, (e146.symm.trans ek0_2), m147, ⟨H131, tqH131, fun q hq => ⟨iff_of_true (inH131 q hq) trivial, hoH131 q hq⟩, G149, clG149, wdp150, wyp150, oip150⟩⟩
