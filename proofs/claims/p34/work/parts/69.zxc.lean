/-! THE STORY, STEP BY STEP -/
theorem gx_s2 {H A B : mzH} {p p2 : Nat} (fr : kpX H A) (P : wdX B 28 (lkS (fX H p) (wyX A) (fZ A 3 10).toInt (fZ A 3 11).toInt (aZ A 7 (aZ A 27 p).toInt.toNat).toInt (aZ A 8 (aZ A 27 p).toInt.toNat).toInt.toNat (aZ A 9 (aZ A 27 p).toInt.toNat).toInt (aZ A 10 (aZ A 27 p).toInt.toNat).toInt (aZ A 26 (aZ A 27 p).toInt.toNat).toInt)) (e : p2 = p + 1) : wdX B 28 (fX H p2) := by
  subst e
  rw [wyX_kp fr, (fr 3 (by decide)).1, (fr 3 (by decide)).1, (fr 27 (by decide)).2, (fr 7 (by decide)).2, (fr 8 (by decide)).2, (fr 9 (by decide)).2, (fr 10 (by decide)).2, (fr 26 (by decide)).2] at P
  exact P
/-- the verdict on the message at a spot -/
def vdX (H : mzH) (p : Nat) : Int := obj (fX H p) (wyX H) (fZ H 3 10).toInt (fZ H 3 11).toInt (roX H (odX H p) 1) (roX H (odX H p) 2).toNat (roX H (odX H p) 3) (hoX H (odX H p))
theorem gv_s2 {H A : mzH} {p : Nat} {v : Int} (fr : kpX H A) (P : v = obj (fX H p) (wyX A) (fZ A 3 10).toInt (fZ A 3 11).toInt (aZ A 7 (aZ A 27 p).toInt.toNat).toInt (aZ A 8 (aZ A 27 p).toInt.toNat).toInt.toNat (aZ A 9 (aZ A 27 p).toInt.toNat).toInt (aZ A 26 (aZ A 27 p).toInt.toNat).toInt) : v = vdX H p := by
  rw [wyX_kp fr, (fr 3 (by decide)).1, (fr 3 (by decide)).1, (fr 27 (by decide)).2, (fr 7 (by decide)).2, (fr 8 (by decide)).2, (fr 9 (by decide)).2, (fr 26 (by decide)).2] at P
  exact P
set_option maxRecDepth 4000 in
set_option maxHeartbeats 4000000 in
/-- X5.step -/
theorem w_53 {s : pS} (a1 : Int32) (ha1 : 0 ≤ a1.toInt ∧ a1.toInt ≤ 59) (H : mzH) (hI : gI SX H) (hJ : JX H) (hp0 : wdX H 28 s) (hp1 : laB s) (hp2 : kdB s) (hp3 : (0 ≤ (aZ H 26 (aZ H 27 a1.toInt.toNat).toInt.toNat).toInt ∧ (aZ H 26 (aZ H 27 a1.toInt.toNat).toInt.toNat).toInt ≤ 999)) (hp4 : (0 ≤ (aZ H 7 (aZ H 27 a1.toInt.toNat).toInt.toNat).toInt ∧ (aZ H 7 (aZ H 27 a1.toInt.toNat).toInt.toNat).toInt ≤ 10)) : gCall 53 [.ref 24, .int a1] H (gRi (fun v H' => gI SX H' ∧ JX H' ∧ fZ H' 1 1 = fZ H 1 1 ∧ kpX H H' ∧ wdX H' 28 (lkS s (wyX H) (fZ H 3 10).toInt (fZ H 3 11).toInt (aZ H 7 (aZ H 27 a1.toInt.toNat).toInt.toNat).toInt (aZ H 8 (aZ H 27 a1.toInt.toNat).toInt.toNat).toInt.toNat (aZ H 9 (aZ H 27 a1.toInt.toNat).toInt.toNat).toInt (aZ H 10 (aZ H 27 a1.toInt.toNat).toInt.toNat).toInt (aZ H 26 (aZ H 27 a1.toInt.toNat).toInt.toNat).toInt) ∧ v.toInt = obj s (wyX H) (fZ H 3 10).toInt (fZ H 3 11).toInt (aZ H 7 (aZ H 27 a1.toInt.toNat).toInt.toNat).toInt (aZ H 8 (aZ H 27 a1.toInt.toNat).toInt.toNat).toInt.toNat (aZ H 9 (aZ H 27 a1.toInt.toNat).toInt.toNat).toInt (aZ H 26 (aZ H 27 a1.toInt.toNat).toInt.toNat).toInt)) := by
  obtain ⟨k1_1, ek1_1⟩ : ∃ z, z = fZ H 1 1 := ⟨_, rfl⟩
  have ik1_1 : k1_1.toInt = (fZ H 1 1).toInt := by rw [← ek1_1]
  have bk1_1 : 0 ≤ k1_1.toInt ∧ k1_1.toInt ≤ 900 := by rw [ek1_1]; exact fZ_of hI sx_1 rfl
  have mkfr : kpX H H := kpX_r
  refine gG_call [(0, .ref 24), (1, .int a1)] ⟨rfl, rfl, trivial⟩ ?_
  show gG 2 zB_53 (mzBlk zB_53 0) [(0, .ref 24), (1, .int a1)] [] H 0 0 _
  refine g_aload_n rfl ?_
  refine g_gfr hI sx_24 rfl ?_
  refine g_aload_n rfl ?_
  refine g_gfr hI sx_24 rfl ?_
  refine g_aload_n rfl ?_
  refine g_gfr hI sx_24 rfl ?_
  refine g_gfr hI sx_25 rfl ?_
  refine g_iload_n rfl ?_
  refine g_iaload hI sx_27 rfl (by omega) (fun v57 ev57 lv57 uv57 => ?_)
  refine g_aload_n rfl ?_
  refine g_gfr hI sx_24 rfl ?_
  refine g_iload_n rfl ?_
  refine g_invvi hI sx_25 rfl rfl rfl rfl (w_27 25 zCo_25 a1 (by omega) H hI hJ) (fun v60 H58 r59 => ?_)
  obtain ⟨rfl, p61⟩ := r59
  have hbv60 : 0 ≤ v60.toInt ∧ v60.toInt ≤ 999 := by rw [p61]; exact hp3
  refine g_invvi hI sx_28 rfl rfl rfl rfl (w_93 28 zWo_28 v57 (by omega) v60 (by omega) H hI hJ hp0 hp1 hp2 (by rw [ev57]; exact hp4)) (fun v64 H62 r63 => ?_)
  obtain ⟨hIH62, hJH62, w65, m66, p67, p68⟩ := r63
  have e69 : k1_1 = fZ H62 1 1 := ek1_1.trans w65.symm
  have m70 : kpX H H62 := kpX_t mkfr (kpX_W (by decide) m66)
  exact g_iret ⟨_, rfl, hIH62, hJH62, (e69.symm.trans ek1_1), m70, (by rw [← (show _ = (aZ H 26 (aZ H 27 a1.toInt.toNat).toInt.toNat).toInt from p61), ← ev57]; exact p67), (by rw [← (show _ = (aZ H 26 (aZ H 27 a1.toInt.toNat).toInt.toNat).toInt from p61), ← ev57]; exact p68)⟩
