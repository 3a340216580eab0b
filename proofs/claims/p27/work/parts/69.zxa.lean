set_option maxRecDepth 4000 in
set_option maxHeartbeats 4000000 in
/-- X9.pick -/
theorem w_153  (a0 : Int64) (a1 : Int32) (H : mzH) (hI : gI SX H) (hJ : JX H) (hp0 : 0 ≤ a1.toInt) : gCall 153 [.long a0, .int a1] H (gRi (fun v H' => H = H' ∧ v.toInt = pkF (lbi a0) 64 0 a1.toInt)) := by
  refine gG_call [(0, .long a0), (2, .int a1)] ⟨rfl, rfl, trivial⟩ ?_
  show gG 5 zB_153 (mzBlk zB_153 0) [(0, .long a0), (2, .int a1)] [] H 0 0 _
  refine g_iconst (by decide) (fun v506 kv506 => ?_)
  refine g_istore_n (l' := [(0, .long a0), (2, .int a1), (3, .int v506)]) rfl rfl ?_
  refine g_iconst (by decide) (fun v507 kv507 => ?_)
  refine g_istore (l' := [(0, .long a0), (2, .int a1), (3, .int v506), (4, .int v507)]) rfl rfl ?_
  refine g_nop ?_
  have L510 : ∀ (N : Nat) (v508 : Int32) (v509 : Int32), (0 ≤ v508.toInt ∧ v508.toInt ≤ 64) → (0 ≤ v509.toInt ∧ v509.toInt ≤ 64) → pkF (lbi a0) (64 - v509.toInt.toNat) v509.toInt.toNat (a1.toInt - v508.toInt) = pkF (lbi a0) 64 0 a1.toInt → v508.toInt ≤ v509.toInt → (64 - v509.toInt).toNat < N → gG 5 zB_153 (mzBlk zB_153 1) [(0, .long a0), (2, .int a1), (3, .int v508), (4, .int v509)] [] H 0 0 (gRi (fun v H' => H = H' ∧ v.toInt = pkF (lbi a0) 64 0 a1.toInt)) := by
    intro N
    induction N with
    | zero => intro v508 v509 bv508 bv509 q1 q2 hmL510; exact absurd hmL510 (Nat.not_lt_zero _)
    | succ N ihL510 =>
      intro v508 v509 bv508 bv509 q1 q2 hmL510
      refine g_iload rfl ?_
      refine g_bipush (by decide) (fun v511 kv511 => ?_)
      refine g_if2_ge (fun c512 => ?_) (fun c512 => ?_)
      · refine g_bipush (by decide) (fun v513 kv513 => ?_)
        exact g_iret ⟨_, rfl, rfl, (by rw [pk_e q1 (by omega)]; omega)⟩
      · refine g_lload_n rfl ?_
        refine g_iload rfl ?_
        refine g_lushr (fun v514 ov514 => ?_)
        refine g_lconst (fun v515 ov515 => ?_)
        refine g_land (fun v516 ov516 => ?_)
        refine g_lconst (fun v517 ov517 => ?_)
        refine g_lcmp (fun v518 ov518 => ?_)
        have zv518 := lbi_tst ov514 ov516 ov515 ov517 ov518 (by omega)
        refine g_if_eq (fun c519 => ?_) (fun c519 => ?_)
        · refine g_iinc (l' := (fun v520 => [(0, .long a0), (2, .int a1), (3, .int v508), (4, .int v520)])) rfl rfl (by decide) (by omega) (fun _ => rfl) (fun v520 ev520 => ?_)
          refine g_goto ?_
          exact ihL510 v508 v520 (by omega) (by omega) (pk_n q1 (by omega) (by omega) (by omega) (by omega)) (by omega) (by omega)
        · refine g_iload_n rfl ?_
          refine g_iload_n rfl ?_
          refine g_if2_ne (fun c521 => ?_) (fun c521 => ?_)
          · refine g_iinc (l' := (fun v522 => [(0, .long a0), (2, .int a1), (3, .int v522), (4, .int v509)])) rfl rfl (by decide) (by omega) (fun _ => rfl) (fun v522 ev522 => ?_)
            refine g_nop ?_
            refine g_iinc (l' := (fun v523 => [(0, .long a0), (2, .int a1), (3, .int v522), (4, .int v523)])) rfl rfl (by decide) (by omega) (fun _ => rfl) (fun v523 ev523 => ?_)
            refine g_goto ?_
            exact ihL510 v522 v523 (by omega) (by omega) (pk_s q1 (by omega) (by omega) (by omega) (by omega) (by omega)) (by omega) (by omega)
          · refine g_iload rfl ?_
            exact g_iret ⟨_, rfl, rfl, (by rw [← q1, pk_y (by omega) (by omega) (by omega)]; omega)⟩
  exact L510 _ v506 v507 (by omega) (by omega) (by rw [show (64 - v507.toInt.toNat) = 64 by omega, show v507.toInt.toNat = 0 by omega, show a1.toInt - v506.toInt = a1.toInt by omega]) (by omega) (Nat.lt_succ_self _)
