/-! QUESTIONS, THE CLASS -/
def wyB (H : mzH) : Prop := ∀ a b : Int, -2 ≤ wyX H a b ∧ wyX H a b ≤ 25344
def sooX (s : pS) (wy : Int → Int → Int) (n : Nat) (h to : Int) : Int := if whr s n < 0 then whr s n else if whr s n = to then h else if wy (whr s n) to = -2 then -2 else if s.la (tp s n) + wy (whr s n) to < h then h else s.la (tp s n) + wy (whr s n) to
theorem so_mk {s : pS} {wy : Int → Int → Int} {n : Nat} {h to v : Int} (q : (whr s n < 0 ∧ v = whr s n) ∨ (0 ≤ whr s n ∧ whr s n = to ∧ v = h) ∨ (0 ≤ whr s n ∧ whr s n ≠ to ∧ wy (whr s n) to = -2 ∧ v = -2) ∨ (0 ≤ whr s n ∧ whr s n ≠ to ∧ wy (whr s n) to ≠ -2 ∧ h ≤ v ∧ s.la (tp s n) + wy (whr s n) to ≤ v ∧ (v = h ∨ v = s.la (tp s n) + wy (whr s n) to))) : v = sooX s wy n h to := by
  unfold sooX
  rcases q with ⟨q1, q2⟩ | ⟨q1, q2, q3⟩ | ⟨q1, q2, q3, q4⟩ | ⟨q1, q2, q3, q4, q5, q6⟩
  · rw [if_pos q1, q2]
  · rw [if_neg (by omega), if_pos q2, q3]
  · rw [if_neg (by omega), if_neg q2, if_pos q3, q4]
  · rw [if_neg (by omega), if_neg q2, if_neg q3]
    split <;> omega
theorem tp_l {H : mzH} {s : pS} {n : Nat} (hI : gI SX H) (h : wdX H 28 s) (hn : n < 40) : tp s n < 40 := by
  have b : ∀ x, x < 40 → s.ii x < 40 := fun x hx => by
    have k := aZ_of hI sx_30 (i := x) hx
    have := (h x hx).2.1
    have : (aZ H 30 x).toInt = s.ii x := this
    omega
  have b1 := b n hn
  unfold tp
  split
  · exact hn
  · have b2 := b (s.ii n).toNat (by omega)
    split <;> omega
set_option maxRecDepth 4000 in
set_option maxHeartbeats 4000000 in
/-- X9.isThing -/
theorem w_149  (a0 : Int32) (H : mzH) (hI : gI SX H) (hJ : JX H) : gCall 149 [.int a0] H (gRi (fun v H' => H = H' ∧ (0 ≤ v.toInt ∧ v.toInt ≤ 1) ∧ ((v.toInt = 1 ∧ (0 ≤ a0.toInt ∧ a0.toInt ≤ 39)) ∨ (v.toInt = 0 ∧ ¬ (0 ≤ a0.toInt ∧ a0.toInt ≤ 39))))) := by
  refine gG_call [(0, .int a0)] ⟨rfl, trivial⟩ ?_
  show gG 1 zB_149 (mzBlk zB_149 0) [(0, .int a0)] [] H 0 0 _
  refine g_iload_n rfl ?_
  refine g_if_lt (fun c25 => ?_) (fun c25 => ?_)
  · refine g_iconst (by decide) (fun v26 kv26 => ?_)
    refine g_nop ?_
    exact g_zret (by omega) ⟨_, rfl, rfl, (by omega), (by omega)⟩
  · refine g_iload_n rfl ?_
    refine g_bipush (by decide) (fun v27 kv27 => ?_)
    refine g_if2_ge (fun c28 => ?_) (fun c28 => ?_)
    · refine g_iconst (by decide) (fun v29 kv29 => ?_)
      refine g_nop ?_
      exact g_zret (by omega) ⟨_, rfl, rfl, (by omega), (by omega)⟩
    · refine g_iconst (by decide) (fun v30 kv30 => ?_)
      refine g_goto ?_
      exact g_zret (by omega) ⟨_, rfl, rfl, (by omega), (by omega)⟩
set_option maxRecDepth 4000 in
set_option maxHeartbeats 4000000 in
/-- X9.isHour -/
theorem w_150  (a0 : Int32) (H : mzH) (hI : gI SX H) (hJ : JX H) : gCall 150 [.int a0] H (gRi (fun v H' => H = H' ∧ (0 ≤ v.toInt ∧ v.toInt ≤ 1) ∧ ((v.toInt = 1 ∧ (0 ≤ a0.toInt ∧ a0.toInt ≤ 999)) ∨ (v.toInt = 0 ∧ ¬ (0 ≤ a0.toInt ∧ a0.toInt ≤ 999))))) := by
  refine gG_call [(0, .int a0)] ⟨rfl, trivial⟩ ?_
  show gG 1 zB_150 (mzBlk zB_150 0) [(0, .int a0)] [] H 0 0 _
  refine g_iload_n rfl ?_
  refine g_if_lt (fun c25 => ?_) (fun c25 => ?_)
  · refine g_iconst (by decide) (fun v26 kv26 => ?_)
    refine g_nop ?_
    exact g_zret (by omega) ⟨_, rfl, rfl, (by omega), (by omega)⟩
  · refine g_iload_n rfl ?_
    refine g_sipush (by decide) (fun v27 kv27 => ?_)
    refine g_if2_gt (fun c28 => ?_) (fun c28 => ?_)
    · refine g_iconst (by decide) (fun v29 kv29 => ?_)
      refine g_nop ?_
      exact g_zret (by omega) ⟨_, rfl, rfl, (by omega), (by omega)⟩
    · refine g_iconst (by decide) (fun v30 kv30 => ?_)
      refine g_goto ?_
      exact g_zret (by omega) ⟨_, rfl, rfl, (by omega), (by omega)⟩
set_option maxRecDepth 4000 in
set_option maxHeartbeats 4000000 in
/-- X1.hasPlace -/
theorem w_11  (a1 : Int32) (H : mzH) (hI : gI SX H) (hJ : JX H) : gCall 11 [.ref 3, .int a1] H (gRi (fun v H' => H = H' ∧ (0 ≤ v.toInt ∧ v.toInt ≤ 1) ∧ ((v.toInt = 1 ∧ (0 ≤ a1.toInt ∧ a1.toInt < (fZ H 3 7).toInt)) ∨ (v.toInt = 0 ∧ ¬ (0 ≤ a1.toInt ∧ a1.toInt < (fZ H 3 7).toInt))))) := by
  obtain ⟨k3_7, ek3_7⟩ : ∃ z, z = fZ H 3 7 := ⟨_, rfl⟩
  have ik3_7 : k3_7.toInt = (fZ H 3 7).toInt := by rw [← ek3_7]
  have bk3_7 : 0 ≤ k3_7.toInt ∧ k3_7.toInt ≤ 8 := by rw [ek3_7]; exact fZ_of hI sx_3 rfl
  refine gG_call [(0, .ref 3), (1, .int a1)] ⟨rfl, rfl, trivial⟩ ?_
  show gG 2 zB_11 (mzBlk zB_11 0) [(0, .ref 3), (1, .int a1)] [] H 0 0 _
  refine g_iload_n rfl ?_
  refine g_if_lt (fun c21 => ?_) (fun c21 => ?_)
  · refine g_iconst (by decide) (fun v22 kv22 => ?_)
    refine g_nop ?_
    exact g_zret (by omega) ⟨_, rfl, rfl, (by omega), (by omega)⟩
  · refine g_iload_n rfl ?_
    refine g_aload_n rfl ?_
    refine g_gfk hI sx_3 rfl ek3_7 ?_
    refine g_if2_ge (fun c23 => ?_) (fun c23 => ?_)
    · refine g_iconst (by decide) (fun v24 kv24 => ?_)
      refine g_nop ?_
      exact g_zret (by omega) ⟨_, rfl, rfl, (by omega), (by omega)⟩
    · refine g_iconst (by decide) (fun v25 kv25 => ?_)
      refine g_goto ?_
      exact g_zret (by omega) ⟨_, rfl, rfl, (by omega), (by omega)⟩
set_option maxRecDepth 4000 in
set_option maxHeartbeats 4000000 in
/-- X8.knownAt -/
theorem w_92 {s : pS} (w : Nat) (hw : zWo w) (a1 : Int32) (ha1 : 0 ≤ a1.toInt ∧ a1.toInt ≤ 39) (H : mzH) (hI : gI SX H) (hJ : JX H) (hp0 : wdX H w s) : gCall 92 [.ref w, .int a1] H (gRi (fun v H' => H = H' ∧ v.toInt = s.la (tp s a1.toInt.toNat))) := by
  obtain ⟨hwr, hw0, hw1, hw2, hw3, hw4, hw5, hw6⟩ := id hw
  refine gG_call [(0, .ref w), (1, .int a1)] ⟨rfl, rfl, trivial⟩ ?_
  show gG 2 zB_92 (mzBlk zB_92 0) [(0, .ref w), (1, .int a1)] [] H 0 0 _
  refine g_aload_n rfl ?_
  refine g_gfr hI hw0 rfl ?_
  refine g_aload_n rfl ?_
  refine g_iload_n rfl ?_
  refine g_invvi hI hw0 rfl rfl rfl rfl (w_89 w hw a1 (by omega) H hI hJ hp0) (fun v23 H21 r22 => ?_)
  obtain ⟨rfl, bv23, p24⟩ := r22
  have tnv23 : v23.toInt.toNat = tp s a1.toInt.toNat := by omega
  refine g_iaload hI hw4 rfl (by omega) (fun v25 ev25 lv25 uv25 => ?_)
  have yv25 : v25.toInt = (s).la v23.toInt.toNat := by rw [ev25]; exact (hp0 _ (by omega)).2.2.2.1
  rw [tnv23] at yv25
  exact g_iret ⟨_, rfl, rfl, (by omega)⟩
set_option maxRecDepth 4000 in
set_option maxHeartbeats 4000000 in
/-- X9.soonest -/
theorem w_147  (a1 : Int32) (a2 : Int32) (a3 : Int32) (H : mzH) (hI : gI SX H) (hJ : JX H) (hp0 : gdX H) (hp1 : wyB H) : gCall 147 [.ref 0, .int a1, .int a2, .int a3] H (gRi (fun v H' => gI SX H' ∧ JX H' ∧ fZ H' 1 1 = fZ H 1 1 ∧ kpX H H' ∧ ((v.toInt = -1 ∧ ¬ ((0 ≤ a1.toInt ∧ a1.toInt ≤ 39) ∧ (0 ≤ a2.toInt ∧ a2.toInt ≤ 999) ∧ (0 ≤ a3.toInt ∧ a3.toInt < (fZ H 3 7).toInt))) ∨ (((0 ≤ a1.toInt ∧ a1.toInt ≤ 39) ∧ (0 ≤ a2.toInt ∧ a2.toInt ≤ 999) ∧ (0 ≤ a3.toInt ∧ a3.toInt < (fZ H 3 7).toInt)) ∧ ∃ p : Nat, stX H a2.toInt p ∧ v.toInt = sooX (fX H p) (wyX H) a1.toInt.toNat a2.toInt a3.toInt)))) := by
  obtain ⟨k1_1, ek1_1⟩ : ∃ z, z = fZ H 1 1 := ⟨_, rfl⟩
  have ik1_1 : k1_1.toInt = (fZ H 1 1).toInt := by rw [← ek1_1]
  have bk1_1 : 0 ≤ k1_1.toInt ∧ k1_1.toInt ≤ 900 := by rw [ek1_1]; exact fZ_of hI sx_1 rfl
  have mkfr : kpX H H := kpX_r
  refine gG_call [(0, .ref 0), (1, .int a1), (2, .int a2), (3, .int a3)] ⟨rfl, rfl, rfl, rfl, trivial⟩ ?_
  show gG 7 zB_147 (mzBlk zB_147 0) [(0, .ref 0), (1, .int a1), (2, .int a2), (3, .int a3)] [] H 0 0 _
  refine g_iload_n rfl ?_
  refine g_invti rfl rfl rfl (w_149 a1 H hI hJ) (fun v191 H189 r190 => ?_)
  obtain ⟨rfl, bv191, p192⟩ := r190
  refine g_if_eq (fun c193 => ?_) (fun c193 => ?_)
  · refine g_iconst (by decide) (fun v194 kv194 => ?_)
    exact g_iret ⟨_, rfl, hI, hJ, (ek1_1.symm.trans ek1_1), mkfr, (Or.inl ⟨by omega, by omega⟩)⟩
  · refine g_iload_n rfl ?_
    refine g_invti rfl rfl rfl (w_150 a2 H hI hJ) (fun v197 H195 r196 => ?_)
    obtain ⟨rfl, bv197, p198⟩ := r196
    refine g_if_eq (fun c199 => ?_) (fun c199 => ?_)
    · refine g_iconst (by decide) (fun v200 kv200 => ?_)
      exact g_iret ⟨_, rfl, hI, hJ, (ek1_1.symm.trans ek1_1), mkfr, (Or.inl ⟨by omega, by omega⟩)⟩
    · refine g_aload_n rfl ?_
      refine g_gfr hI sx_0 rfl ?_
      refine g_iload_n rfl ?_
      refine g_invvi hI sx_3 rfl rfl rfl rfl (w_11 a3 H hI hJ) (fun v203 H201 r202 => ?_)
      obtain ⟨rfl, bv203, p204⟩ := r202
      refine g_if_ne (fun c205 => ?_) (fun c205 => ?_)
      · refine g_aload_n rfl ?_
        refine g_gfr hI sx_0 rfl ?_
        refine g_iload_n rfl ?_
        refine g_invva hI sx_24 rfl rfl rfl rfl (w_55 a2 H hI hJ hp0) (fun H206 r207 => ?_)
        obtain ⟨hIH206, hJH206, w208, m209, p210⟩ := r207
        have e211 : k1_1 = fZ H206 1 1 := ek1_1.trans w208.symm
        have m212 : kpX H H206 := kpX_t mkfr m209
        obtain ⟨p213, wdp213, stp213⟩ := p210
        have gbp213 := (hp0.2 p213 (by have := stp213.1; omega))
        obtain ⟨lap213, kdp213⟩ := gbp213
        refine g_astore (l' := [(0, .ref 0), (1, .int a1), (2, .int a2), (3, .int a3), (4, .ref 28)]) rfl rfl ?_
        refine g_aload rfl ?_
        refine g_iload_n rfl ?_
        refine g_invvi hIH206 sx_28 rfl rfl rfl rfl (w_91 28 zWo_28 a1 (by omega) H206 hIH206 hJH206 wdp213) (fun v216 H214 r215 => ?_)
        obtain ⟨rfl, p217⟩ := r215
        refine g_istore (l' := [(0, .ref 0), (1, .int a1), (2, .int a2), (3, .int a3), (4, .ref 28), (5, .int v216)]) rfl rfl ?_
        refine g_iload rfl ?_
        refine g_if_lt (fun c218 => ?_) (fun c218 => ?_)
        · refine g_iload rfl ?_
          refine g_if_ge (fun c219 => ?_) (fun c219 => ?_)
          · exfalso; omega
          · refine g_iload rfl ?_
            refine g_goto ?_
            exact g_iret ⟨_, rfl, hIH206, hJH206, (e211.symm.trans ek1_1), m212, (Or.inr ⟨by omega, p213, stp213, so_mk (by omega)⟩)⟩
        · refine g_iload rfl ?_
          refine g_iload_n rfl ?_
          refine g_if2_ne (fun c220 => ?_) (fun c220 => ?_)
          · refine g_aload_n rfl ?_
            refine g_gfr hIH206 sx_0 rfl ?_
            refine g_iload rfl ?_
            refine g_iload_n rfl ?_
            refine g_invvi hIH206 sx_3 rfl rfl rfl rfl (w_17 v216 a3 H206 hIH206 hJH206) (fun v223 H221 r222 => ?_)
            obtain ⟨rfl, p224⟩ := r222
            rw [wyX_kp m212] at p224
            have wbv223 := hp1 v216.toInt a3.toInt
            rw [p217] at p224 wbv223
            refine g_istore (l' := [(0, .ref 0), (1, .int a1), (2, .int a2), (3, .int a3), (4, .ref 28), (5, .int v216), (6, .int v223)]) rfl rfl ?_
            refine g_iload rfl ?_
            refine g_bipush (by decide) (fun v225 kv225 => ?_)
            refine g_if2_ne (fun c226 => ?_) (fun c226 => ?_)
            · refine g_iload_n rfl ?_
              refine g_aload rfl ?_
              refine g_iload_n rfl ?_
              refine g_invvi hIH206 sx_28 rfl rfl rfl rfl (w_92 28 zWo_28 a1 (by omega) H206 hIH206 hJH206 wdp213) (fun v229 H227 r228 => ?_)
              obtain ⟨rfl, p230⟩ := r228
              refine g_iload rfl ?_
              refine g_iadd' (fun v231 ov231 => ?_)
              have lbv231 := lap213 (tp (fX H p213) a1.toInt.toNat) (tp_l hIH206 wdp213 (by omega))
              have sv231 : v231.toInt = v229.toInt + v223.toInt := gz_add_of ov231 (by omega)
              refine g_max rfl (fun v232 av232 bv232 dv232 => ?_)
              refine g_nop ?_
              exact g_iret ⟨_, rfl, hIH206, hJH206, (e211.symm.trans ek1_1), m212, (Or.inr ⟨by omega, p213, stp213, so_mk (by omega)⟩)⟩
            · refine g_bipush (by decide) (fun v233 kv233 => ?_)
              refine g_goto ?_
              exact g_iret ⟨_, rfl, hIH206, hJH206, (e211.symm.trans ek1_1), m212, (Or.inr ⟨by omega, p213, stp213, so_mk (by omega)⟩)⟩
          · refine g_nop ?_
            refine g_iload rfl ?_
            refine g_if_ge (fun c234 => ?_) (fun c234 => ?_)
            · refine g_iload_n rfl ?_
              refine g_nop ?_
              exact g_iret ⟨_, rfl, hIH206, hJH206, (e211.symm.trans ek1_1), m212, (Or.inr ⟨by omega, p213, stp213, so_mk (by omega)⟩)⟩
            · exfalso; omega
      · refine g_nop ?_
        refine g_iconst (by decide) (fun v235 kv235 => ?_)
        exact g_iret ⟨_, rfl, hI, hJ, (ek1_1.symm.trans ek1_1), mkfr, (Or.inl ⟨by omega, by omega⟩)⟩
