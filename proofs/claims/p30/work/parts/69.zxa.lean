theorem is_e {v : Int64} {P : Nat → Prop} {x y : Nat} (h : isS v P x) (e : x = y) : isS v P y := e ▸ h
theorem is_cg {v : Int64} {P Q : Nat → Prop} {x : Nat} (h : isS v P x) (e : ∀ k, P k ↔ Q k) : isS v Q x := fun k hk => by rw [h k hk, e k]
set_option maxRecDepth 4000 in
set_option maxHeartbeats 4000000 in
/-- X8.allKnownBy -/
theorem w_106 {s : pS} (w : Nat) (hw : zWo w) (a1 : Int32) (H : mzH) (hI : gI SX H) (hJ : JX H) (hp0 : wdX H w s) : gCall 106 [.ref w, .int a1] H (gRl (fun v H' => H = H' ∧ isS v (fun x => 0 ≤ whr s x ∧ s.la (tp s x) ≤ a1.toInt) 40)) := by
  obtain ⟨hwr, hw0, hw1, hw2, hw3, hw4, hw5, hw6⟩ := id hw
  refine gG_call [(0, .ref w), (1, .int a1)] ⟨rfl, rfl, trivial⟩ ?_
  show gG 5 zB_106 (mzBlk zB_106 0) [(0, .ref w), (1, .int a1)] [] H 0 0 _
  refine g_lconst (fun v261 ov261 => ?_)
  refine g_lstore_n (l' := [(0, .ref w), (1, .int a1), (2, .long v261)]) rfl rfl ?_
  refine g_iconst (by decide) (fun v262 kv262 => ?_)
  refine g_istore (l' := [(0, .ref w), (1, .int a1), (2, .long v261), (4, .int v262)]) rfl rfl ?_
  refine g_nop ?_
  have L265 : ∀ (N : Nat) (v263 : Int64) (v264 : Int32), (0 ≤ v264.toInt ∧ v264.toInt ≤ 40) → isS v263 (fun x => 0 ≤ whr s x ∧ s.la (tp s x) ≤ a1.toInt) v264.toInt.toNat → (40 - v264.toInt).toNat < N → gG 5 zB_106 (mzBlk zB_106 1) [(0, .ref w), (1, .int a1), (2, .long v263), (4, .int v264)] [] H 0 0 (gRl (fun v H' => H = H' ∧ isS v (fun x => 0 ≤ whr s x ∧ s.la (tp s x) ≤ a1.toInt) 40)) := by
    intro N
    induction N with
    | zero => intro v263 v264 bv264 q1 hmL265; exact absurd hmL265 (Nat.not_lt_zero _)
    | succ N ihL265 =>
      intro v263 v264 bv264 q1 hmL265
      refine g_iload rfl ?_
      refine g_bipush (by decide) (fun v266 kv266 => ?_)
      refine g_if2_ge (fun c267 => ?_) (fun c267 => ?_)
      · refine g_lload_n rfl ?_
        exact g_lret ⟨_, rfl, rfl, (is_e q1 (by omega))⟩
      · refine g_aload_n rfl ?_
        refine g_iload rfl ?_
        refine g_invvi hI hw0 rfl rfl rfl rfl (w_91 w hw v264 (by omega) H hI hJ hp0) (fun v270 H268 r269 => ?_)
        obtain ⟨rfl, p271⟩ := r269
        refine g_if_lt (fun c272 => ?_) (fun c272 => ?_)
        · refine g_iinc (l' := (fun v273 => [(0, .ref w), (1, .int a1), (2, .long v263), (4, .int v273)])) rfl rfl (by decide) (by omega) (fun _ => rfl) (fun v273 ev273 => ?_)
          refine g_goto ?_
          exact ihL265 v263 v273 (by omega) (is_n q1 (by omega) (by show ¬ (0 ≤ whr s v264.toInt.toNat ∧ s.la (tp s v264.toInt.toNat) ≤ a1.toInt); omega)) (by omega)
        · refine g_aload_n rfl ?_
          refine g_iload rfl ?_
          refine g_invvi hI hw0 rfl rfl rfl rfl (w_92 w hw v264 (by omega) H hI hJ hp0) (fun v276 H274 r275 => ?_)
          obtain ⟨rfl, p277⟩ := r275
          refine g_iload_n rfl ?_
          refine g_if2_gt (fun c278 => ?_) (fun c278 => ?_)
          · refine g_iinc (l' := (fun v279 => [(0, .ref w), (1, .int a1), (2, .long v263), (4, .int v279)])) rfl rfl (by decide) (by omega) (fun _ => rfl) (fun v279 ev279 => ?_)
            refine g_goto ?_
            exact ihL265 v263 v279 (by omega) (is_n q1 (by omega) (by show ¬ (0 ≤ whr s v264.toInt.toNat ∧ s.la (tp s v264.toInt.toNat) ≤ a1.toInt); omega)) (by omega)
          · refine g_lload_n rfl ?_
            refine g_lconst (fun v280 ov280 => ?_)
            refine g_iload rfl ?_
            refine g_lshl (fun v281 ov281 => ?_)
            refine g_lor (fun v282 ov282 => ?_)
            refine g_lstore_n (l' := [(0, .ref w), (1, .int a1), (2, .long v282), (4, .int v264)]) rfl rfl ?_
            refine g_nop ?_
            refine g_iinc (l' := (fun v283 => [(0, .ref w), (1, .int a1), (2, .long v282), (4, .int v283)])) rfl rfl (by decide) (by omega) (fun _ => rfl) (fun v283 ev283 => ?_)
            refine g_goto ?_
            exact ihL265 v282 v283 (by omega) (is_y q1 ov281 ov280 ov282 (by omega) rfl (by omega) (by show 0 ≤ whr s v264.toInt.toNat ∧ s.la (tp s v264.toInt.toNat) ≤ a1.toInt; omega)) (by omega)
  exact L265 _ v261 v262 (by omega) (is_0 ov261 (by omega)) (Nat.lt_succ_self _)
set_option maxRecDepth 4000 in
set_option maxHeartbeats 4000000 in
/-- X9.pick -/
theorem w_153  (a0 : Int64) (a1 : Int32) (H : mzH) (hI : gI SX H) (hJ : JX H) (hp0 : 0 ≤ a1.toInt) : gCall 153 [.long a0, .int a1] H (gRi (fun v H' => H = H' ∧ v.toInt = pkF (lbi a0) 64 0 a1.toInt)) := by
  refine gG_call [(0, .long a0), (2, .int a1)] ⟨rfl, rfl, trivial⟩ ?_
  show gG 5 zB_153 (mzBlk zB_153 0) [(0, .long a0), (2, .int a1)] [] H 0 0 _
  refine g_iconst (by decide) (fun v506 kv506 => ?_)
  refine g_istore_n (l' := [(0, .long a0), (2, .int a1), (3, .int v506)]) rfl rfl ?_
  refine g_iconst (by decide) (fun v507 kv507 => ?_)
  refine g_istore (l' := [(0, .long a0), (2, .int a1), (3, .int v506), (4, .int v507)]) rfl rfl ?_
  refine g_nop ?_
  have L510 : ∀ (N : Nat) (v508 : Int32) (v509 : Int32), (0 ≤ v508.toInt ∧ v508.toInt ≤ 64) → (0 ≤ v509.toInt ∧ v509.toInt ≤ 64) → pkF (lbi a0) (64 - v509.toInt.toNat) v509.toInt.toNat (a1.toInt - v508.toInt) = pkF (lbi a0) 64 0 a1.toInt → v508.toInt ≤ v509.toInt → (64 - v509.toInt).toNat < N → gG 5 zB_153 (mzBlk zB_153 1) [(0, .long a0), (2, .int a1), (3, .int v508), (4, .int v509)] [] H 0 0 (gRi (fun v H' => H = H' ∧ v.toInt = pkF (lbi a0) 64 0 a1.toInt)) := by
    intro N
    induction N with
    | zero => intro v508 v509 bv508 bv509 q1 q2 hmL510; exact absurd hmL510 (Nat.not_lt_zero _)
    | succ N ihL510 =>
      intro v508 v509 bv508 bv509 q1 q2 hmL510
      refine g_iload rfl ?_
      refine g_bipush (by decide) (fun v511 kv511 => ?_)
      refine g_if2_ge (fun c512 => ?_) (fun c512 => ?_)
      · refine g_bipush (by decide) (fun v513 kv513 => ?_)
        exact g_iret ⟨_, rfl, rfl, (by rw [pk_e q1 (by omega)]; omega)⟩
      · refine g_lload_n rfl ?_
        refine g_iload rfl ?_
        refine g_lushr (fun v514 ov514 => ?_)
        refine g_lconst (fun v515 ov515 => ?_)
        refine g_land (fun v516 ov516 => ?_)
        refine g_lconst (fun v517 ov517 => ?_)
        refine g_lcmp (fun v518 ov518 => ?_)
        have zv518 := lbi_tst ov514 ov516 ov515 ov517 ov518 (by omega)
        refine g_if_eq (fun c519 => ?_) (fun c519 => ?_)
        · refine g_iinc (l' := (fun v520 => [(0, .long a0), (2, .int a1), (3, .int v508), (4, .int v520)])) rfl rfl (by decide) (by omega) (fun _ => rfl) (fun v520 ev520 => ?_)
          refine g_goto ?_
          exact ihL510 v508 v520 (by omega) (by omega) (pk_n q1 (by omega) (by omega) (by omega) (by omega)) (by omega) (by omega)
        · refine g_iload_n rfl ?_
          refine g_iload_n rfl ?_
          refine g_if2_ne (fun c521 => ?_) (fun c521 => ?_)
          · refine g_iinc (l' := (fun v522 => [(0, .long a0), (2, .int a1), (3, .int v522), (4, .int v509)])) rfl rfl (by decide) (by omega) (fun _ => rfl) (fun v522 ev522 => ?_)
            refine g_nop ?_
            refine g_iinc (l' := (fun v523 => [(0, .long a0), (2, .int a1), (3, .int v522), (4, .int v523)])) rfl rfl (by decide) (by omega) (fun _ => rfl) (fun v523 ev523 => ?_)
            refine g_goto ?_
            exact ihL510 v522 v523 (by omega) (by omega) (pk_s q1 (by omega) (by omega) (by omega) (by omega) (by omega)) (by omega) (by omega)
          · refine g_iload rfl ?_
            exact g_iret ⟨_, rfl, rfl, (by rw [← q1, pk_y (by omega) (by omega) (by omega)]; omega)⟩
  exact L510 _ v506 v507 (by omega) (by omega) (by rw [show (64 - v507.toInt.toNat) = 64 by omega, show v507.toInt.toNat = 0 by omega, show a1.toInt - v506.toInt = a1.toInt by omega]) (by omega) (Nat.lt_succ_self _)
set_option maxRecDepth 4000 in
set_option maxHeartbeats 4000000 in
/-- X9.lost -/
theorem w_142  (a1 : Int32) (a2 : Int32) (a3 : Int32) (H : mzH) (hI : gI SX H) (hJ : JX H) (hp0 : gdX H) : gCall 142 [.ref 0, .int a1, .int a2, .int a3] H (gRi (fun v H' => gI SX H' ∧ JX H' ∧ fZ H' 1 1 = fZ H 1 1 ∧ kpX H H' ∧ ((v.toInt = -1 ∧ ¬ ((0 ≤ a1.toInt ∧ a1.toInt ≤ 999) ∧ (0 ≤ a2.toInt ∧ a2.toInt ≤ 999) ∧ 0 ≤ a3.toInt)) ∨ (((0 ≤ a1.toInt ∧ a1.toInt ≤ 999) ∧ (0 ≤ a2.toInt ∧ a2.toInt ≤ 999) ∧ 0 ≤ a3.toInt) ∧ ∃ p : Nat, stX H a1.toInt p ∧ v.toInt = pkF (fun x => if 0 ≤ whr (fX H p) x ∧ (fX H p).la (tp (fX H p) x) ≤ a1.toInt - a2.toInt then 1 else 0) 40 0 a3.toInt)))) := by
  obtain ⟨k1_1, ek1_1⟩ : ∃ z, z = fZ H 1 1 := ⟨_, rfl⟩
  have ik1_1 : k1_1.toInt = (fZ H 1 1).toInt := by rw [← ek1_1]
  have bk1_1 : 0 ≤ k1_1.toInt ∧ k1_1.toInt ≤ 900 := by rw [ek1_1]; exact fZ_of hI sx_1 rfl
  have mkfr : kpX H H := kpX_r
  refine gG_call [(0, .ref 0), (1, .int a1), (2, .int a2), (3, .int a3)] ⟨rfl, rfl, rfl, rfl, trivial⟩ ?_
  show gG 4 zB_142 (mzBlk zB_142 0) [(0, .ref 0), (1, .int a1), (2, .int a2), (3, .int a3)] [] H 0 0 _
  refine g_iload_n rfl ?_
  refine g_invti rfl rfl rfl (w_150 a1 H hI hJ) (fun v127 H125 r126 => ?_)
  obtain ⟨rfl, bv127, p128⟩ := r126
  refine g_if_eq (fun c129 => ?_) (fun c129 => ?_)
  · refine g_iconst (by decide) (fun v130 kv130 => ?_)
    exact g_iret ⟨_, rfl, hI, hJ, (ek1_1.symm.trans ek1_1), mkfr, (Or.inl ⟨by omega, by omega⟩)⟩
  · refine g_iload_n rfl ?_
    refine g_invti rfl rfl rfl (w_150 a2 H hI hJ) (fun v133 H131 r132 => ?_)
    obtain ⟨rfl, bv133, p134⟩ := r132
    refine g_if_eq (fun c135 => ?_) (fun c135 => ?_)
    · refine g_iconst (by decide) (fun v136 kv136 => ?_)
      exact g_iret ⟨_, rfl, hI, hJ, (ek1_1.symm.trans ek1_1), mkfr, (Or.inl ⟨by omega, by omega⟩)⟩
    · refine g_iload_n rfl ?_
      refine g_if_ge (fun c137 => ?_) (fun c137 => ?_)
      · refine g_aload_n rfl ?_
        refine g_gfr hI sx_0 rfl ?_
        refine g_iload_n rfl ?_
        refine g_invva hI sx_24 rfl rfl rfl rfl (w_55 a1 H hI hJ hp0) (fun H138 r139 => ?_)
        obtain ⟨hIH138, hJH138, w140, m141, p142⟩ := r139
        have e143 : k1_1 = fZ H138 1 1 := ek1_1.trans w140.symm
        have m144 : kpX H H138 := kpX_t mkfr m141
        obtain ⟨p145, wdp145, stp145⟩ := p142
        have gbp145 := (hp0.2 p145 (by have := stp145.1; omega))
        obtain ⟨lap145, kdp145⟩ := gbp145
        refine g_iload_n rfl ?_
        refine g_iload_n rfl ?_
        refine g_isub (by omega) (fun v146 ev146 => ?_)
        refine g_invvl hIH138 sx_28 rfl rfl rfl rfl (w_106 28 zWo_28 v146 H138 hIH138 hJH138 wdp145) (fun v149 H147 r148 => ?_)
        obtain ⟨rfl, p150⟩ := r148
        refine g_iload_n rfl ?_
        refine g_invti rfl rfl rfl (w_153 v149 a3 H138 hIH138 hJH138 (by omega)) (fun v153 H151 r152 => ?_)
        obtain ⟨rfl, p154⟩ := r152
        exact g_iret ⟨_, rfl, hIH138, hJH138, (e143.symm.trans ek1_1), m144, (Or.inr ⟨by omega, p145, stp145, (by rw [p154]; exact pk_set (is_cg p150 (fun k => by rw [show v146.toInt = a1.toInt - a2.toInt by omega])) (fun k hk => ⟨fun z => by rw [if_pos z], fun z => by split at z; assumption; exact absurd z (by decide)⟩))⟩)⟩
      · refine g_nop ?_
        refine g_iconst (by decide) (fun v155 kv155 => ?_)
        exact g_iret ⟨_, rfl, hI, hJ, (ek1_1.symm.trans ek1_1), mkfr, (Or.inl ⟨by omega, by omega⟩)⟩
