/-! WHAT IS TOLD OF A THING -/
def telX (s : pS) (n : Nat) (w : Int) : Int := if whr s n = -2 ∨ whr s n = -4 then whr s n else if w = 0 then s.kd n else if w = 1 then s.ii n else if w = 2 then (tp s n : Int) else if w = 3 then whr s n else if w = 4 then s.op n else if w = 5 then s.he n else if w = 6 then s.se n else if w = 7 then s.la (tp s n) else if w = 8 then hel s (n : Int) else cnt (fun x => inn s x (n : Int) = 1) 40
theorem tl_w {s : pS} {n : Nat} {w v : Int} (h : whr s n = -2 ∨ whr s n = -4) (e : v = whr s n) : v = telX s n w := by
  unfold telX
  rw [if_pos h, e]
theorem tl_0 {s : pS} {n : Nat} {w v : Int} (h : ¬ (whr s n = -2 ∨ whr s n = -4)) (hw : w = 0) (e : v = s.kd n) : v = telX s n w := by
  unfold telX
  rw [if_neg h, if_pos hw, e]
theorem tl_1 {s : pS} {n : Nat} {w v : Int} (h : ¬ (whr s n = -2 ∨ whr s n = -4)) (hw : w = 1) (e : v = s.ii n) : v = telX s n w := by
  unfold telX
  rw [if_neg h, if_neg (by omega), if_pos hw, e]
theorem tl_2 {s : pS} {n : Nat} {w v : Int} (h : ¬ (whr s n = -2 ∨ whr s n = -4)) (hw : w = 2) (e : v = (tp s n : Int)) : v = telX s n w := by
  unfold telX
  rw [if_neg h, if_neg (by omega), if_neg (by omega), if_pos hw, e]
theorem tl_3 {s : pS} {n : Nat} {w v : Int} (h : ¬ (whr s n = -2 ∨ whr s n = -4)) (hw : w = 3) (e : v = whr s n) : v = telX s n w := by
  unfold telX
  rw [if_neg h, if_neg (by omega), if_neg (by omega), if_neg (by omega), if_pos hw, e]
theorem tl_4 {s : pS} {n : Nat} {w v : Int} (h : ¬ (whr s n = -2 ∨ whr s n = -4)) (hw : w = 4) (e : v = s.op n) : v = telX s n w := by
  unfold telX
  rw [if_neg h, if_neg (by omega), if_neg (by omega), if_neg (by omega), if_neg (by omega), if_pos hw, e]
theorem tl_5 {s : pS} {n : Nat} {w v : Int} (h : ¬ (whr s n = -2 ∨ whr s n = -4)) (hw : w = 5) (e : v = s.he n) : v = telX s n w := by
  unfold telX
  rw [if_neg h, if_neg (by omega), if_neg (by omega), if_neg (by omega), if_neg (by omega), if_neg (by omega), if_pos hw, e]
theorem tl_6 {s : pS} {n : Nat} {w v : Int} (h : ¬ (whr s n = -2 ∨ whr s n = -4)) (hw : w = 6) (e : v = s.se n) : v = telX s n w := by
  unfold telX
  rw [if_neg h, if_neg (by omega), if_neg (by omega), if_neg (by omega), if_neg (by omega), if_neg (by omega), if_neg (by omega), if_pos hw, e]
theorem tl_7 {s : pS} {n : Nat} {w v : Int} (h : ¬ (whr s n = -2 ∨ whr s n = -4)) (hw : w = 7) (e : v = s.la (tp s n)) : v = telX s n w := by
  unfold telX
  rw [if_neg h, if_neg (by omega), if_neg (by omega), if_neg (by omega), if_neg (by omega), if_neg (by omega), if_neg (by omega), if_neg (by omega), if_pos hw, e]
theorem tl_8 {s : pS} {n : Nat} {w v : Int} (h : ¬ (whr s n = -2 ∨ whr s n = -4)) (hw : w = 8) (e : v = hel s (n : Int)) : v = telX s n w := by
  unfold telX
  rw [if_neg h, if_neg (by omega), if_neg (by omega), if_neg (by omega), if_neg (by omega), if_neg (by omega), if_neg (by omega), if_neg (by omega), if_neg (by omega), if_pos hw, e]
theorem tl_9 {s : pS} {n : Nat} {w v : Int} (h : ¬ (whr s n = -2 ∨ whr s n = -4)) (hw : 9 ≤ w) (e : v = cnt (fun x => inn s x (n : Int) = 1) 40) : v = telX s n w := by
  unfold telX
  rw [if_neg h, if_neg (by omega), if_neg (by omega), if_neg (by omega), if_neg (by omega), if_neg (by omega), if_neg (by omega), if_neg (by omega), if_neg (by omega), if_neg (by omega), e]
set_option maxRecDepth 4000 in
set_option maxHeartbeats 4000000 in
/-- J13.bitCount -/
theorem w_253  (a0 : Int64) (H : mzH) (hI : gI SX H) (hJ : JX H) : gCall 253 [.long a0] H (gRi (fun v H' => H = H' ∧ v.toInt = cnt (fun k => lbi a0 k = 1) 64)) := by
  refine gG_call [(0, .long a0)] ⟨rfl, trivial⟩ ?_
  show gG 2 zB_253 (mzBlk zB_253 0) [(0, .long a0)] [] H 0 0 _
  refine g_lload_n rfl ?_
  refine g_lload_n rfl ?_
  refine g_iconst (by decide) (fun v117 kv117 => ?_)
  refine g_lushr (fun v118 ov118 => ?_)
  refine g_ldc2 (fun v119 ov119 => ?_)
  refine g_land (fun v120 ov120 => ?_)
  refine g_lsub (fun v121 ov121 => ?_)
  refine g_lstore_n (l' := [(0, .long v121)]) rfl rfl ?_
  refine g_lload_n rfl ?_
  refine g_ldc2 (fun v122 ov122 => ?_)
  refine g_land (fun v123 ov123 => ?_)
  refine g_lload_n rfl ?_
  refine g_iconst (by decide) (fun v124 kv124 => ?_)
  refine g_lushr (fun v125 ov125 => ?_)
  refine g_ldc2 (fun v126 ov126 => ?_)
  refine g_land (fun v127 ov127 => ?_)
  refine g_ladd (fun v128 ov128 => ?_)
  refine g_lstore_n (l' := [(0, .long v128)]) rfl rfl ?_
  refine g_lload_n rfl ?_
  refine g_lload_n rfl ?_
  refine g_iconst (by decide) (fun v129 kv129 => ?_)
  refine g_lushr (fun v130 ov130 => ?_)
  refine g_ladd (fun v131 ov131 => ?_)
  refine g_ldc2 (fun v132 ov132 => ?_)
  refine g_land (fun v133 ov133 => ?_)
  refine g_lstore_n (l' := [(0, .long v133)]) rfl rfl ?_
  refine g_lload_n rfl ?_
  refine g_lload_n rfl ?_
  refine g_bipush (by decide) (fun v134 kv134 => ?_)
  refine g_lushr (fun v135 ov135 => ?_)
  refine g_ladd (fun v136 ov136 => ?_)
  refine g_lstore_n (l' := [(0, .long v136)]) rfl rfl ?_
  refine g_lload_n rfl ?_
  refine g_lload_n rfl ?_
  refine g_bipush (by decide) (fun v137 kv137 => ?_)
  refine g_lushr (fun v138 ov138 => ?_)
  refine g_ladd (fun v139 ov139 => ?_)
  refine g_lstore_n (l' := [(0, .long v139)]) rfl rfl ?_
  refine g_lload_n rfl ?_
  refine g_lload_n rfl ?_
  refine g_bipush (by decide) (fun v140 kv140 => ?_)
  refine g_lushr (fun v141 ov141 => ?_)
  refine g_ladd (fun v142 ov142 => ?_)
  refine g_lstore_n (l' := [(0, .long v142)]) rfl rfl ?_
  refine g_lload_n rfl ?_
  refine g_l2i (fun v143 ov143 => ?_)
  refine g_bipush (by decide) (fun v144 kv144 => ?_)
  refine g_iand (by omega) (fun v145 ov145 lv145 uv145 => ?_)
  have e1 := bc_1 ov118 kv117 ov120 ov119 ov121
  have hb1 : ∀ i, btN a0 i ≤ 1 := fun i => by have := btN_1 (v := a0) (k := i); omega
  have hb0 : ∀ i, 64 ≤ i → btN a0 i = 0 := fun i hi => btN_64 hi
  have e2 := bc_2 e1 (fun i => by have := hb1 (2 * i); have := hb1 (2 * i + 1); omega) (fun i hi => by rw [hb0 (2 * i) (by omega), hb0 (2 * i + 1) (by omega)]) ov123 ov122 ov125 kv124 ov127 ov126 ov128
  have e3 := bc_3 e2 (fun i => by have := hb1 (2 * (2 * i)); have := hb1 (2 * (2 * i) + 1); have := hb1 (2 * (2 * i + 1)); have := hb1 (2 * (2 * i + 1) + 1); omega) (fun i hi => by rw [hb0 (2 * (2 * i)) (by omega), hb0 (2 * (2 * i) + 1) (by omega), hb0 (2 * (2 * i + 1)) (by omega), hb0 (2 * (2 * i + 1) + 1) (by omega)]) ov130 kv129 ov131 ov133 ov132
  have e3b := e3.trans (dg_cg (g := fun i => btN a0 (8 * i) + btN a0 (8 * i + 1) + (btN a0 (8 * i + 2) + btN a0 (8 * i + 3)) + (btN a0 (8 * i + 4) + btN a0 (8 * i + 5) + (btN a0 (8 * i + 6) + btN a0 (8 * i + 7)))) (fun i _ => by rw [show 2 * (2 * (2 * i)) = 8 * i by omega, show 2 * (2 * (2 * i) + 1) = 8 * i + 2 by omega, show 2 * (2 * (2 * i + 1)) = 8 * i + 4 by omega, show 2 * (2 * (2 * i + 1) + 1) = 8 * i + 6 by omega]))
  exact g_iret ⟨_, rfl, rfl, (bc_end (t := btN a0) (fun _ => rfl) e3b ov135 kv134 ov136 ov138 kv137 ov139 ov141 kv140 ov142 ov143 kv144 ov145)⟩
set_option maxRecDepth 4000 in
set_option maxHeartbeats 4000000 in
/-- X8.tellOf -/
theorem w_109 {s : pS} (w : Nat) (hw : zWo w) (a1 : Int32) (ha1 : 0 ≤ a1.toInt ∧ a1.toInt ≤ 39) (a2 : Int32) (H : mzH) (hI : gI SX H) (hJ : JX H) (hp0 : wdX H w s) (hp1 : (0 ≤ a2.toInt ∧ a2.toInt ≤ 9)) : gCall 109 [.ref w, .int a1, .int a2] H (gRi (fun v H' => H = H' ∧ v.toInt = telX s a1.toInt.toNat a2.toInt)) := by
  obtain ⟨hwr, hw0, hw1, hw2, hw3, hw4, hw5, hw6⟩ := id hw
  refine gG_call [(0, .ref w), (1, .int a1), (2, .int a2)] ⟨rfl, rfl, rfl, trivial⟩ ?_
  show gG 4 zB_109 (mzBlk zB_109 0) [(0, .ref w), (1, .int a1), (2, .int a2)] [] H 0 0 _
  refine g_aload_n rfl ?_
  refine g_iload_n rfl ?_
  refine g_invvi hI hw0 rfl rfl rfl rfl (w_91 w hw a1 (by omega) H hI hJ hp0) (fun v195 H193 r194 => ?_)
  obtain ⟨rfl, p196⟩ := r194
  refine g_istore_n (l' := [(0, .ref w), (1, .int a1), (2, .int a2), (3, .int v195)]) rfl rfl ?_
  refine g_iload_n rfl ?_
  refine g_bipush (by decide) (fun v197 kv197 => ?_)
  refine g_if2_eq (fun c198 => ?_) (fun c198 => ?_)
  · refine g_iload_n rfl ?_
    exact g_iret ⟨_, rfl, rfl, (tl_w (by omega) (by omega))⟩
  · refine g_iload_n rfl ?_
    refine g_bipush (by decide) (fun v199 kv199 => ?_)
    refine g_if2_ne (fun c200 => ?_) (fun c200 => ?_)
    · refine g_iload_n rfl ?_
      refine g_sw (by decide) (fun c201 => ?_) ⟨fun c201 => ?_, fun c201 => ?_, fun c201 => ?_, fun c201 => ?_, fun c201 => ?_, fun c201 => ?_, fun c201 => ?_, fun c201 => ?_, fun c201 => ?_, trivial⟩
      · refine g_aload_n rfl ?_
        refine g_iload_n rfl ?_
        refine g_invvl hI hw0 rfl rfl rfl rfl (w_104 w hw a1 H hI hJ hp0) (fun v204 H202 r203 => ?_)
        obtain ⟨rfl, p205⟩ := r203
        refine g_invti rfl rfl rfl (w_253 v204 H hI hJ) (fun v208 H206 r207 => ?_)
        obtain ⟨rfl, p209⟩ := r207
        exact g_iret ⟨_, rfl, rfl, (tl_9 (by omega) (by omega) (by rw [p209, cn_set p205, (show ((a1.toInt.toNat : Nat) : Int) = a1.toInt by omega)]))⟩
      · refine g_aload_n rfl ?_
        refine g_gfr hI hw0 rfl ?_
        refine g_iload_n rfl ?_
        refine g_iaload hI hw1 rfl (by omega) (fun v210 ev210 lv210 uv210 => ?_)
        have yv210 : v210.toInt = (s).kd a1.toInt.toNat := by rw [ev210]; exact (hp0 _ (by omega)).1
        exact g_iret ⟨_, rfl, rfl, (tl_0 (by omega) (by omega) (by omega))⟩
      · refine g_aload_n rfl ?_
        refine g_gfr hI hw0 rfl ?_
        refine g_iload_n rfl ?_
        refine g_iaload hI hw2 rfl (by omega) (fun v211 ev211 lv211 uv211 => ?_)
        have yv211 : v211.toInt = (s).ii a1.toInt.toNat := by rw [ev211]; exact (hp0 _ (by omega)).2.1
        exact g_iret ⟨_, rfl, rfl, (tl_1 (by omega) (by omega) (by omega))⟩
      · refine g_aload_n rfl ?_
        refine g_iload_n rfl ?_
        refine g_invvi hI hw0 rfl rfl rfl rfl (w_89 w hw a1 (by omega) H hI hJ hp0) (fun v214 H212 r213 => ?_)
        obtain ⟨rfl, bv214, p215⟩ := r213
        have tnv214 : v214.toInt.toNat = tp s a1.toInt.toNat := by omega
        exact g_iret ⟨_, rfl, rfl, (tl_2 (by omega) (by omega) (by omega))⟩
      · refine g_iload_n rfl ?_
        exact g_iret ⟨_, rfl, rfl, (tl_3 (by omega) (by omega) (by omega))⟩
      · refine g_aload_n rfl ?_
        refine g_iload_n rfl ?_
        refine g_iconst (by decide) (fun v216 kv216 => ?_)
        refine g_invvi hI hw0 rfl rfl rfl rfl (w_85 w hw a1 (by omega) v216 H hI hJ hp0 (by omega)) (fun v219 H217 r218 => ?_)
        obtain ⟨rfl, bv219, p220⟩ := r218
        rw [kv216, mkb_1] at p220
        refine g_if_eq (fun c221 => ?_) (fun c221 => ?_)
        · refine g_iconst (by decide) (fun v222 kv222 => ?_)
          refine g_nop ?_
          exact g_iret ⟨_, rfl, rfl, (tl_4 (by omega) (by omega) (by omega))⟩
        · refine g_iconst (by decide) (fun v223 kv223 => ?_)
          refine g_goto ?_
          exact g_iret ⟨_, rfl, rfl, (tl_4 (by omega) (by omega) (by omega))⟩
      · refine g_aload_n rfl ?_
        refine g_iload_n rfl ?_
        refine g_bipush (by decide) (fun v224 kv224 => ?_)
        refine g_invvi hI hw0 rfl rfl rfl rfl (w_85 w hw a1 (by omega) v224 H hI hJ hp0 (by omega)) (fun v227 H225 r226 => ?_)
        obtain ⟨rfl, bv227, p228⟩ := r226
        rw [kv224, mkb_8] at p228
        refine g_if_eq (fun c229 => ?_) (fun c229 => ?_)
        · refine g_iconst (by decide) (fun v230 kv230 => ?_)
          refine g_nop ?_
          exact g_iret ⟨_, rfl, rfl, (tl_5 (by omega) (by omega) (by omega))⟩
        · refine g_iconst (by decide) (fun v231 kv231 => ?_)
          refine g_goto ?_
          exact g_iret ⟨_, rfl, rfl, (tl_5 (by omega) (by omega) (by omega))⟩
      · refine g_aload_n rfl ?_
        refine g_gfr hI hw0 rfl ?_
        refine g_iload_n rfl ?_
        refine g_iaload hI hw5 rfl (by omega) (fun v232 ev232 lv232 uv232 => ?_)
        have yv232 : v232.toInt = (s).se a1.toInt.toNat := by rw [ev232]; exact (hp0 _ (by omega)).2.2.2.2.1
        exact g_iret ⟨_, rfl, rfl, (tl_6 (by omega) (by omega) (by omega))⟩
      · refine g_aload_n rfl ?_
        refine g_iload_n rfl ?_
        refine g_invvi hI hw0 rfl rfl rfl rfl (w_92 w hw a1 (by omega) H hI hJ hp0) (fun v235 H233 r234 => ?_)
        obtain ⟨rfl, p236⟩ := r234
        exact g_iret ⟨_, rfl, rfl, (tl_7 (by omega) (by omega) (by omega))⟩
      · refine g_aload_n rfl ?_
        refine g_iload_n rfl ?_
        refine g_invvi hI hw0 rfl rfl rfl rfl (w_103 w hw a1 H hI hJ hp0) (fun v239 H237 r238 => ?_)
        obtain ⟨rfl, p240⟩ := r238
        have hlv239 : hel s a1.toInt = hel s ((a1.toInt.toNat : Nat) : Int) := by rw [show ((a1.toInt.toNat : Nat) : Int) = a1.toInt by omega]
        exact g_iret ⟨_, rfl, rfl, (tl_8 (by omega) (by omega) (by rw [(show ((a1.toInt.toNat : Nat) : Int) = a1.toInt by omega)]; exact p240))⟩
    · refine g_nop ?_
      refine g_iload_n rfl ?_
      exact g_iret ⟨_, rfl, rfl, (tl_w (by omega) (by omega))⟩
set_option maxRecDepth 4000 in
set_option maxHeartbeats 4000000 in
/-- X9.thing -/
theorem w_120  (a1 : Int32) (a2 : Int32) (a3 : Int32) (H : mzH) (hI : gI SX H) (hJ : JX H) (hp0 : gdX H) : gCall 120 [.ref 0, .int a1, .int a2, .int a3] H (gRi (fun v H' => gI SX H' ∧ JX H' ∧ fZ H' 1 1 = fZ H 1 1 ∧ kpX H H' ∧ ((v.toInt = -1 ∧ ¬ ((0 ≤ a1.toInt ∧ a1.toInt ≤ 39) ∧ (0 ≤ a2.toInt ∧ a2.toInt ≤ 999) ∧ (0 ≤ a3.toInt ∧ a3.toInt ≤ 9))) ∨ (((0 ≤ a1.toInt ∧ a1.toInt ≤ 39) ∧ (0 ≤ a2.toInt ∧ a2.toInt ≤ 999) ∧ (0 ≤ a3.toInt ∧ a3.toInt ≤ 9)) ∧ ∃ p : Nat, stX H a2.toInt p ∧ v.toInt = telX (fX H p) a1.toInt.toNat a3.toInt)))) := by
  obtain ⟨k1_1, ek1_1⟩ : ∃ z, z = fZ H 1 1 := ⟨_, rfl⟩
  have ik1_1 : k1_1.toInt = (fZ H 1 1).toInt := by rw [← ek1_1]
  have bk1_1 : 0 ≤ k1_1.toInt ∧ k1_1.toInt ≤ 900 := by rw [ek1_1]; exact fZ_of hI sx_1 rfl
  have mkfr : kpX H H := kpX_r
  refine gG_call [(0, .ref 0), (1, .int a1), (2, .int a2), (3, .int a3)] ⟨rfl, rfl, rfl, rfl, trivial⟩ ?_
  show gG 4 zB_120 (mzBlk zB_120 0) [(0, .ref 0), (1, .int a1), (2, .int a2), (3, .int a3)] [] H 0 0 _
  refine g_iload_n rfl ?_
  refine g_invti rfl rfl rfl (w_149 a1 H hI hJ) (fun v119 H117 r118 => ?_)
  obtain ⟨rfl, bv119, p120⟩ := r118
  refine g_if_eq (fun c121 => ?_) (fun c121 => ?_)
  · refine g_iconst (by decide) (fun v122 kv122 => ?_)
    exact g_iret ⟨_, rfl, hI, hJ, (ek1_1.symm.trans ek1_1), mkfr, (Or.inl ⟨by omega, by omega⟩)⟩
  · refine g_iload_n rfl ?_
    refine g_invti rfl rfl rfl (w_150 a2 H hI hJ) (fun v125 H123 r124 => ?_)
    obtain ⟨rfl, bv125, p126⟩ := r124
    refine g_if_eq (fun c127 => ?_) (fun c127 => ?_)
    · refine g_iconst (by decide) (fun v128 kv128 => ?_)
      exact g_iret ⟨_, rfl, hI, hJ, (ek1_1.symm.trans ek1_1), mkfr, (Or.inl ⟨by omega, by omega⟩)⟩
    · refine g_iload_n rfl ?_
      refine g_if_lt (fun c129 => ?_) (fun c129 => ?_)
      · refine g_iconst (by decide) (fun v130 kv130 => ?_)
        exact g_iret ⟨_, rfl, hI, hJ, (ek1_1.symm.trans ek1_1), mkfr, (Or.inl ⟨by omega, by omega⟩)⟩
      · refine g_iload_n rfl ?_
        refine g_bipush (by decide) (fun v131 kv131 => ?_)
        refine g_if2_le (fun c132 => ?_) (fun c132 => ?_)
        · refine g_aload_n rfl ?_
          refine g_gfr hI sx_0 rfl ?_
          refine g_iload_n rfl ?_
          refine g_invva hI sx_24 rfl rfl rfl rfl (w_55 a2 H hI hJ hp0) (fun H133 r134 => ?_)
          obtain ⟨hIH133, hJH133, w135, m136, p137⟩ := r134
          have e138 : k1_1 = fZ H133 1 1 := ek1_1.trans w135.symm
          have m139 : kpX H H133 := kpX_t mkfr m136
          obtain ⟨p140, wdp140, stp140⟩ := p137
          have gbp140 := (hp0.2 p140 (by have := stp140.1; omega))
          obtain ⟨lap140, kdp140⟩ := gbp140
          refine g_iload_n rfl ?_
          refine g_iload_n rfl ?_
          refine g_invvi hIH133 sx_28 rfl rfl rfl rfl (w_109 28 zWo_28 a1 (by omega) a3 H133 hIH133 hJH133 wdp140 (by omega)) (fun v143 H141 r142 => ?_)
          obtain ⟨rfl, p144⟩ := r142
          exact g_iret ⟨_, rfl, hIH133, hJH133, (e138.symm.trans ek1_1), m139, (Or.inr ⟨by omega, p140, stp140, p144⟩)⟩
        · refine g_nop ?_
          refine g_iconst (by decide) (fun v145 kv145 => ?_)
          exact g_iret ⟨_, rfl, hI, hJ, (ek1_1.symm.trans ek1_1), mkfr, (Or.inl ⟨by omega, by omega⟩)⟩
