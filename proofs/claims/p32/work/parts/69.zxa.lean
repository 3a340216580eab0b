theorem is_e {v : Int64} {P : Nat → Prop} {x y : Nat} (h : isS v P x) (e : x = y) : isS v P y := e ▸ h
set_option maxRecDepth 4000 in
set_option maxHeartbeats 4000000 in
/-- X8.allAt -/
theorem w_105 {s : pS} (w : Nat) (hw : zWo w) (a1 : Int32) (H : mzH) (hI : gI SX H) (hJ : JX H) (hp0 : wdX H w s) : gCall 105 [.ref w, .int a1] H (gRl (fun v H' => H = H' ∧ isS v (fun x => whr s x = a1.toInt) 40)) := by
  obtain ⟨hwr, hw0, hw1, hw2, hw3, hw4, hw5, hw6⟩ := id hw
  refine gG_call [(0, .ref w), (1, .int a1)] ⟨rfl, rfl, trivial⟩ ?_
  show gG 5 zB_105 (mzBlk zB_105 0) [(0, .ref w), (1, .int a1)] [] H 0 0 _
  refine g_lconst (fun v189 ov189 => ?_)
  refine g_lstore_n (l' := [(0, .ref w), (1, .int a1), (2, .long v189)]) rfl rfl ?_
  refine g_iconst (by decide) (fun v190 kv190 => ?_)
  refine g_istore (l' := [(0, .ref w), (1, .int a1), (2, .long v189), (4, .int v190)]) rfl rfl ?_
  refine g_nop ?_
  have L193 : ∀ (N : Nat) (v191 : Int64) (v192 : Int32), (0 ≤ v192.toInt ∧ v192.toInt ≤ 40) → isS v191 (fun x => whr s x = a1.toInt) v192.toInt.toNat → (40 - v192.toInt).toNat < N → gG 5 zB_105 (mzBlk zB_105 1) [(0, .ref w), (1, .int a1), (2, .long v191), (4, .int v192)] [] H 0 0 (gRl (fun v H' => H = H' ∧ isS v (fun x => whr s x = a1.toInt) 40)) := by
    intro N
    induction N with
    | zero => intro v191 v192 bv192 q1 hmL193; exact absurd hmL193 (Nat.not_lt_zero _)
    | succ N ihL193 =>
      intro v191 v192 bv192 q1 hmL193
      refine g_iload rfl ?_
      refine g_bipush (by decide) (fun v194 kv194 => ?_)
      refine g_if2_ge (fun c195 => ?_) (fun c195 => ?_)
      · refine g_lload_n rfl ?_
        exact g_lret ⟨_, rfl, rfl, (is_e q1 (by omega))⟩
      · refine g_aload_n rfl ?_
        refine g_iload rfl ?_
        refine g_invvi hI hw0 rfl rfl rfl rfl (w_91 w hw v192 (by omega) H hI hJ hp0) (fun v198 H196 r197 => ?_)
        obtain ⟨rfl, p199⟩ := r197
        refine g_iload_n rfl ?_
        refine g_if2_ne (fun c200 => ?_) (fun c200 => ?_)
        · refine g_iinc (l' := (fun v201 => [(0, .ref w), (1, .int a1), (2, .long v191), (4, .int v201)])) rfl rfl (by decide) (by omega) (fun _ => rfl) (fun v201 ev201 => ?_)
          refine g_goto ?_
          exact ihL193 v191 v201 (by omega) (is_n q1 (by omega) (by show ¬ whr s v192.toInt.toNat = a1.toInt; omega)) (by omega)
        · refine g_lload_n rfl ?_
          refine g_lconst (fun v202 ov202 => ?_)
          refine g_iload rfl ?_
          refine g_lshl (fun v203 ov203 => ?_)
          refine g_lor (fun v204 ov204 => ?_)
          refine g_lstore_n (l' := [(0, .ref w), (1, .int a1), (2, .long v204), (4, .int v192)]) rfl rfl ?_
          refine g_nop ?_
          refine g_iinc (l' := (fun v205 => [(0, .ref w), (1, .int a1), (2, .long v204), (4, .int v205)])) rfl rfl (by decide) (by omega) (fun _ => rfl) (fun v205 ev205 => ?_)
          refine g_goto ?_
          exact ihL193 v204 v205 (by omega) (is_y q1 ov203 ov202 ov204 (by omega) rfl (by omega) (by show whr s v192.toInt.toNat = a1.toInt; omega)) (by omega)
  exact L193 _ v189 v190 (by omega) (is_0 ov189 (by omega)) (Nat.lt_succ_self _)
set_option maxRecDepth 4000 in
set_option maxHeartbeats 4000000 in
/-- X9.isPlaceOrSold -/
theorem w_151  (a1 : Int32) (H : mzH) (hI : gI SX H) (hJ : JX H) : gCall 151 [.ref 0, .int a1] H (gRi (fun v H' => H = H' ∧ (0 ≤ v.toInt ∧ v.toInt ≤ 1) ∧ ((v.toInt = 1 ∧ (a1.toInt = -3 ∨ (0 ≤ a1.toInt ∧ a1.toInt < (fZ H 3 7).toInt))) ∨ (v.toInt = 0 ∧ ¬ (a1.toInt = -3 ∨ (0 ≤ a1.toInt ∧ a1.toInt < (fZ H 3 7).toInt)))))) := by
  refine gG_call [(0, .ref 0), (1, .int a1)] ⟨rfl, rfl, trivial⟩ ?_
  show gG 2 zB_151 (mzBlk zB_151 0) [(0, .ref 0), (1, .int a1)] [] H 0 0 _
  refine g_iload_n rfl ?_
  refine g_bipush (by decide) (fun v41 kv41 => ?_)
  refine g_if2_eq (fun c42 => ?_) (fun c42 => ?_)
  · refine g_iconst (by decide) (fun v43 kv43 => ?_)
    refine g_goto ?_
    exact g_zret (by omega) ⟨_, rfl, rfl, (by omega), (by omega)⟩
  · refine g_aload_n rfl ?_
    refine g_gfr hI sx_0 rfl ?_
    refine g_iload_n rfl ?_
    refine g_invvi hI sx_3 rfl rfl rfl rfl (w_11 a1 H hI hJ) (fun v46 H44 r45 => ?_)
    obtain ⟨rfl, bv46, p47⟩ := r45
    refine g_if_eq (fun c48 => ?_) (fun c48 => ?_)
    · refine g_iconst (by decide) (fun v49 kv49 => ?_)
      refine g_nop ?_
      exact g_zret (by omega) ⟨_, rfl, rfl, (by omega), (by omega)⟩
    · refine g_nop ?_
      refine g_iconst (by decide) (fun v50 kv50 => ?_)
      refine g_goto ?_
      exact g_zret (by omega) ⟨_, rfl, rfl, (by omega), (by omega)⟩
set_option maxRecDepth 4000 in
set_option maxHeartbeats 4000000 in
/-- X9.isWhereabouts -/
theorem w_152  (a1 : Int32) (H : mzH) (hI : gI SX H) (hJ : JX H) : gCall 152 [.ref 0, .int a1] H (gRi (fun v H' => H = H' ∧ (0 ≤ v.toInt ∧ v.toInt ≤ 1) ∧ ((v.toInt = 1 ∧ (a1.toInt = -4 ∨ a1.toInt = -3 ∨ (0 ≤ a1.toInt ∧ a1.toInt < (fZ H 3 7).toInt))) ∨ (v.toInt = 0 ∧ ¬ (a1.toInt = -4 ∨ a1.toInt = -3 ∨ (0 ≤ a1.toInt ∧ a1.toInt < (fZ H 3 7).toInt)))))) := by
  refine gG_call [(0, .ref 0), (1, .int a1)] ⟨rfl, rfl, trivial⟩ ?_
  show gG 2 zB_152 (mzBlk zB_152 0) [(0, .ref 0), (1, .int a1)] [] H 0 0 _
  refine g_iload_n rfl ?_
  refine g_bipush (by decide) (fun v41 kv41 => ?_)
  refine g_if2_eq (fun c42 => ?_) (fun c42 => ?_)
  · refine g_iconst (by decide) (fun v43 kv43 => ?_)
    refine g_goto ?_
    exact g_zret (by omega) ⟨_, rfl, rfl, (by omega), (by omega)⟩
  · refine g_aload_n rfl ?_
    refine g_iload_n rfl ?_
    refine g_invvi hI sx_0 rfl rfl rfl rfl (w_151 a1 H hI hJ) (fun v46 H44 r45 => ?_)
    obtain ⟨rfl, bv46, p47⟩ := r45
    refine g_if_eq (fun c48 => ?_) (fun c48 => ?_)
    · refine g_iconst (by decide) (fun v49 kv49 => ?_)
      refine g_nop ?_
      exact g_zret (by omega) ⟨_, rfl, rfl, (by omega), (by omega)⟩
    · refine g_nop ?_
      refine g_iconst (by decide) (fun v50 kv50 => ?_)
      refine g_goto ?_
      exact g_zret (by omega) ⟨_, rfl, rfl, (by omega), (by omega)⟩
