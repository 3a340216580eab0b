def telM (s : pS) (md : Nat → Int) (n : Nat) (w : Int) : Int := if md n = 0 then -2 else if ¬ s.en n = 0 then -4 else if w = 0 then s.kd n else if w = 1 then s.ii n else if w = 2 then (tp s n : Int) else if w = 3 then whM s md n else if w = 4 then s.op n else if w = 5 then s.he n else if w = 6 then s.se n else if w = 7 then s.la (tp s n) else if w = 8 then hel s (n : Int) else cnt (fun x => inn s x (n : Int) = 1) 40
set_option maxRecDepth 4000 in
set_option maxHeartbeats 4000000 in
/-- M.allIn -/
theorem r_207 {s : pS} {md : Nat → Int} (a1 : Int32) (ha1 : 0 ≤ a1.toInt ∧ a1.toInt ≤ 39) (H : mzH) (hI : gI SM H) (hJ : JM H) (hp0 : rwX H s md) (hp1 : dpt s) : gCall 207 [.ref 0, .int a1] H (gRi (fun v H' => H = H' ∧ v.toInt = cnt (fun x => inn s x a1.toInt = 1) 40)) := by
  refine gG_call [(0, .ref 0), (1, .int a1)] ⟨rfl, rfl, trivial⟩ ?_
  show gG 4 zB_207 (mzBlk zB_207 0) [(0, .ref 0), (1, .int a1)] [] H 0 0 _
  refine g_iconst (by decide) (fun v489 kv489 => ?_)
  refine g_istore_n (l' := [(0, .ref 0), (1, .int a1), (2, .int v489)]) rfl rfl ?_
  refine g_iconst (by decide) (fun v490 kv490 => ?_)
  refine g_istore_n (l' := [(0, .ref 0), (1, .int a1), (2, .int v489), (3, .int v490)]) rfl rfl ?_
  refine g_nop ?_
  have L493 : ∀ (N : Nat) (v491 : Int32) (v492 : Int32), (0 ≤ v492.toInt ∧ v492.toInt ≤ 40) → v491.toInt = cnt (fun x => inn s x a1.toInt = 1) v492.toInt.toNat → (0 ≤ v491.toInt ∧ v491.toInt ≤ v492.toInt) → (40 - v492.toInt).toNat < N → gG 4 zB_207 (mzBlk zB_207 1) [(0, .ref 0), (1, .int a1), (2, .int v491), (3, .int v492)] [] H 0 0 (gRi (fun v H' => H = H' ∧ v.toInt = cnt (fun x => inn s x a1.toInt = 1) 40)) := by
    intro N
    induction N with
    | zero => intro v491 v492 bv492 q1 q2 hmL493; exact absurd hmL493 (Nat.not_lt_zero _)
    | succ N ihL493 =>
      intro v491 v492 bv492 q1 q2 hmL493
      refine g_iload_n rfl ?_
      refine g_bipush (by decide) (fun v494 kv494 => ?_)
      refine g_if2_ge (fun c495 => ?_) (fun c495 => ?_)
      · refine g_iload_n rfl ?_
        exact g_iret ⟨_, rfl, rfl, (cn_end q1 (by omega))⟩
      · refine g_iload_n rfl ?_
        refine g_aload_n rfl ?_
        refine g_iload_n rfl ?_
        refine g_iload_n rfl ?_
        refine g_invvi hI sm_0 rfl rfl rfl rfl (r_186 v492 (by omega) a1 (by omega) H hI hJ hp0 hp1) (fun v498 H496 r497 => ?_)
        obtain ⟨rfl, bv498, p499⟩ := r497
        have ibv498 := inn_b (s := s) (n := v492.toInt.toNat) (o := a1.toInt)
        refine g_if_eq (fun c500 => ?_) (fun c500 => ?_)
        · refine g_iconst (by decide) (fun v501 kv501 => ?_)
          refine g_nop ?_
          refine g_iadd (by have := gz_any v491; omega) (fun v502 ev502 => ?_)
          refine g_istore_n (l' := [(0, .ref 0), (1, .int a1), (2, .int v502), (3, .int v492)]) rfl rfl ?_
          refine g_iinc (l' := (fun v503 => [(0, .ref 0), (1, .int a1), (2, .int v502), (3, .int v503)])) rfl rfl (by decide) (by omega) (fun _ => rfl) (fun v503 ev503 => ?_)
          refine g_goto ?_
          exact ihL493 v502 v503 (by omega) (cn_n q1 (by omega) (by show ¬ (inn s v492.toInt.toNat a1.toInt = 1); omega) (by omega)) (by omega) (by omega)
        · refine g_iconst (by decide) (fun v504 kv504 => ?_)
          refine g_goto ?_
          refine g_iadd' (fun v505 ov505 => ?_)
          have sv505 : v505.toInt = v491.toInt + v504.toInt := gz_add_of ov505 (by omega)
          refine g_istore_n (l' := [(0, .ref 0), (1, .int a1), (2, .int v505), (3, .int v492)]) rfl rfl ?_
          refine g_iinc (l' := (fun v506 => [(0, .ref 0), (1, .int a1), (2, .int v505), (3, .int v506)])) rfl rfl (by decide) (by omega) (fun _ => rfl) (fun v506 ev506 => ?_)
          refine g_goto ?_
          exact ihL493 v505 v506 (by omega) (cn_y q1 (by omega) (by show (inn s v492.toInt.toNat a1.toInt = 1); omega) (by omega)) (by omega) (by omega)
  exact L493 _ v489 v490 (by omega) (cn_0 (by omega) (by omega)) (by omega) (Nat.lt_succ_self _)
