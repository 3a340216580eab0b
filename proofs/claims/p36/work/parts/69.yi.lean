/-! LATE ONES -/
def lS (h : Nat → Int) (k : Nat) : Nat → Bool
  | 0 => false
  | j + 1 => lS h k j || decide (h k < h j)
def lC (h : Nat → Int) : Nat → Nat
  | 0 => 0
  | n + 1 => lC h n + (if lS h n n = true then 1 else 0)
theorem ls_0 {h : Nat → Int} {k j : Nat} (hj : j = 0) : lS h k j = false := by subst hj; rfl
theorem ls_no {h : Nat → Int} {k j i : Nat} (q : lS h k j = false) (hi : i = j + 1) (hn : ¬ h k < h j) : lS h k i = false := by
  subst hi
  unfold lS
  rw [q, decide_eq_false hn]
  rfl
theorem ls_yes {h : Nat → Int} {k j : Nat} : ∀ {n : Nat}, j < n → h k < h j → lS h k n = true
  | 0, hj, _ => absurd hj (Nat.not_lt_zero _)
  | n + 1, hj, hl => by
    unfold lS
    if e : j = n then
      subst e
      rw [decide_eq_true hl, Bool.or_true]
    else rw [ls_yes (n := n) (by omega) hl, Bool.true_or]
theorem ls_end {h : Nat → Int} {k j n : Nat} (q : lS h k j = false) (e : j = n) : lS h k n = false := e ▸ q
theorem lc_st {h : Nat → Int} {k j : Nat} {n m f : Int} (q : n = (lC h k : Int)) (hj : j = k + 1) (hm : m = n + f) (p : (f = 1 ∧ lS h k k = true) ∨ (f = 0 ∧ lS h k k = false)) : m = (lC h j : Int) := by
  subst hj
  unfold lC
  rcases p with ⟨p1, p2⟩ | ⟨p1, p2⟩
  · rw [p2, if_pos rfl]
    omega
  · rw [p2, if_neg (by decide)]
    omega
theorem lc_end {h : Nat → Int} {k j : Nat} {n : Int} (q : n = (lC h k : Int)) (e : k = j) : n = (lC h j : Int) := e ▸ q
theorem lS_cg {f g : Nat → Int} {k N : Nat} (h : ∀ q, q < N → f q = g q) (hk : k < N) : ∀ {j : Nat}, j ≤ N → lS f k j = lS g k j
  | 0, _ => rfl
  | j + 1, hj => by
    unfold lS
    rw [lS_cg h hk (j := j) (by omega), h k hk, h j (by omega)]
theorem lC_cg {f g : Nat → Int} {N : Nat} (h : ∀ q, q < N → f q = g q) : ∀ {n : Nat}, n ≤ N → lC f n = lC g n
  | 0, _ => rfl
  | n + 1, hn => by
    unfold lC
    rw [lC_cg h (n := n) (by omega), lS_cg h (k := n) (by omega) (by omega)]
def hX (H : mzH) (k : Nat) : Int := (aZ H 6 k).toInt
def hM (H : mzH) (k : Nat) : Int := (aZ H 2 (69 + 5 * k)).toInt
theorem hM_F {H B : mzH} {a f : Nat} {v : Int32} (e : B = sF H a f v) : hM B = hM H := by
  funext k
  unfold hM
  rw [e, aZ_sF]
set_option maxRecDepth 4000 in
set_option maxHeartbeats 4000000 in
/-- X1.isLate -/
theorem e_20 (a1 : Int32) (ha1 : 0 ≤ a1.toInt ∧ a1.toInt ≤ 59) (H : mzH) (hI : gI SX H) (hJ : JX H) (hp0 : a1.toInt < (fZ H 3 9).toInt) : gCall 20 [.ref 3, .int a1] H (gRi (fun v H' => H = H' ∧ (0 ≤ v.toInt ∧ v.toInt ≤ 1) ∧ ((v.toInt = 1 ∧ lS (hX H) a1.toInt.toNat a1.toInt.toNat = true) ∨ (v.toInt = 0 ∧ lS (hX H) a1.toInt.toNat a1.toInt.toNat = false)))) := by
  obtain ⟨k3_9, ek3_9⟩ : ∃ z, z = fZ H 3 9 := ⟨_, rfl⟩
  have ik3_9 : k3_9.toInt = (fZ H 3 9).toInt := by rw [← ek3_9]
  have bk3_9 : 0 ≤ k3_9.toInt ∧ k3_9.toInt ≤ 60 := by rw [ek3_9]; exact fZ_of hI sx_3 rfl
  refine gG_call [(0, .ref 3), (1, .int a1)] ⟨rfl, rfl, trivial⟩ ?_
  show gG 3 zB_20 (mzBlk zB_20 0) [(0, .ref 3), (1, .int a1)] [] H 0 0 _
  refine g_iconst (by decide) (fun v161 kv161 => ?_)
  refine g_istore_n (l' := [(0, .ref 3), (1, .int a1), (2, .int v161)]) rfl rfl ?_
  refine g_nop ?_
  have L163 : ∀ (N : Nat) (v162 : Int32), (0 ≤ v162.toInt ∧ v162.toInt ≤ 59) → lS (hX H) a1.toInt.toNat v162.toInt.toNat = false → v162.toInt ≤ a1.toInt → (59 - v162.toInt).toNat < N → gG 3 zB_20 (mzBlk zB_20 1) [(0, .ref 3), (1, .int a1), (2, .int v162)] [] H 0 0 (gRi (fun v H' => H = H' ∧ (0 ≤ v.toInt ∧ v.toInt ≤ 1) ∧ ((v.toInt = 1 ∧ lS (hX H) a1.toInt.toNat a1.toInt.toNat = true) ∨ (v.toInt = 0 ∧ lS (hX H) a1.toInt.toNat a1.toInt.toNat = false)))) := by
    intro N
    induction N with
    | zero => intro v162 bv162 q1 q2 hmL163; exact absurd hmL163 (Nat.not_lt_zero _)
    | succ N ihL163 =>
      intro v162 bv162 q1 q2 hmL163
      refine g_iload_n rfl ?_
      refine g_iload_n rfl ?_
      refine g_if2_ge (fun c164 => ?_) (fun c164 => ?_)
      · refine g_iconst (by decide) (fun v165 kv165 => ?_)
        exact g_zret (by omega) ⟨_, rfl, rfl, (by omega), (Or.inr ⟨by omega, ls_end q1 (by omega)⟩)⟩
      · refine g_iload_n rfl ?_
        refine g_aload_n rfl ?_
        refine g_gfk hI sx_3 rfl ek3_9 ?_
        refine g_if2_ge (fun c166 => ?_) (fun c166 => ?_)
        · refine g_iconst (by decide) (fun v167 kv167 => ?_)
          exact g_zret (by omega) ⟨_, rfl, rfl, (by omega), (Or.inr ⟨by omega, ls_end q1 (by omega)⟩)⟩
        · refine g_aload_n rfl ?_
          refine g_gfr hI sx_3 rfl ?_
          refine g_iload_n rfl ?_
          refine g_iaload hI sx_6 rfl (by omega) (fun v168 ev168 lv168 uv168 => ?_)
          have yv168 : v168.toInt = (aZ H 6 v162.toInt.toNat).toInt := by rw [ev168]
          refine g_aload_n rfl ?_
          refine g_gfr hI sx_3 rfl ?_
          refine g_iload_n rfl ?_
          refine g_iaload hI sx_6 rfl (by omega) (fun v169 ev169 lv169 uv169 => ?_)
          have yv169 : v169.toInt = (aZ H 6 a1.toInt.toNat).toInt := by rw [ev169]
          refine g_if2_le (fun c170 => ?_) (fun c170 => ?_)
          · refine g_iinc (l' := (fun v171 => [(0, .ref 3), (1, .int a1), (2, .int v171)])) rfl rfl (by decide) (by omega) (fun _ => rfl) (fun v171 ev171 => ?_)
            refine g_goto ?_
            exact ihL163 v171 (by omega) (ls_no q1 (by omega) (by unfold hX; omega)) (by omega) (by omega)
          · refine g_iconst (by decide) (fun v172 kv172 => ?_)
            exact g_zret (by omega) ⟨_, rfl, rfl, (by omega), (Or.inl ⟨by omega, ls_yes (j := v162.toInt.toNat) (by omega) (by unfold hX; omega)⟩)⟩
  exact L163 _ v161 (by omega) (ls_0 (by omega)) (by omega) (Nat.lt_succ_self _)
set_option maxRecDepth 4000 in
set_option maxHeartbeats 4000000 in
/-- X1.lateOnes -/
theorem e_21 (H : mzH) (hI : gI SX H) (hJ : JX H) : gCall 21 [.ref 3] H (gRi (fun v H' => H = H' ∧ v.toInt = (lC (hX H) (fZ H 3 9).toInt.toNat : Int))) := by
  obtain ⟨k3_9, ek3_9⟩ : ∃ z, z = fZ H 3 9 := ⟨_, rfl⟩
  have ik3_9 : k3_9.toInt = (fZ H 3 9).toInt := by rw [← ek3_9]
  have bk3_9 : 0 ≤ k3_9.toInt ∧ k3_9.toInt ≤ 60 := by rw [ek3_9]; exact fZ_of hI sx_3 rfl
  refine gG_call [(0, .ref 3)] ⟨rfl, trivial⟩ ?_
  show gG 3 zB_21 (mzBlk zB_21 0) [(0, .ref 3)] [] H 0 0 _
  refine g_iconst (by decide) (fun v459 kv459 => ?_)
  refine g_istore_n (l' := [(0, .ref 3), (1, .int v459)]) rfl rfl ?_
  refine g_iconst (by decide) (fun v460 kv460 => ?_)
  refine g_istore_n (l' := [(0, .ref 3), (1, .int v459), (2, .int v460)]) rfl rfl ?_
  refine g_nop ?_
  have L463 : ∀ (N : Nat) (v461 : Int32) (v462 : Int32), (0 ≤ v462.toInt ∧ v462.toInt ≤ 60) → v461.toInt = (lC (hX H) v462.toInt.toNat : Int) → (0 ≤ v461.toInt ∧ v461.toInt ≤ v462.toInt) → v462.toInt ≤ (fZ H 3 9).toInt → (60 - v462.toInt).toNat < N → gG 3 zB_21 (mzBlk zB_21 1) [(0, .ref 3), (1, .int v461), (2, .int v462)] [] H 0 0 (gRi (fun v H' => H = H' ∧ v.toInt = (lC (hX H) (fZ H 3 9).toInt.toNat : Int))) := by
    intro N
    induction N with
    | zero => intro v461 v462 bv462 q1 q3 q4 hmL463; exact absurd hmL463 (Nat.not_lt_zero _)
    | succ N ihL463 =>
      intro v461 v462 bv462 q1 q3 q4 hmL463
      refine g_iload_n rfl ?_
      refine g_aload_n rfl ?_
      refine g_gfk hI sx_3 rfl ek3_9 ?_
      refine g_if2_ge (fun c464 => ?_) (fun c464 => ?_)
      · refine g_iload_n rfl ?_
        exact g_iret ⟨_, rfl, rfl, (lc_end q1 (by omega))⟩
      · refine g_iload_n rfl ?_
        refine g_aload_n rfl ?_
        refine g_iload_n rfl ?_
        refine g_invvi hI sx_3 rfl rfl rfl rfl (e_20 v462 (by omega) H hI hJ (by omega)) (fun v467 H465 r466 => ?_)
        obtain ⟨rfl, bv467, p468⟩ := r466
        refine g_if_eq (fun c469 => ?_) (fun c469 => ?_)
        · refine g_iconst (by decide) (fun v470 kv470 => ?_)
          refine g_nop ?_
          refine g_iadd (by have := gz_any v461; omega) (fun v471 ev471 => ?_)
          refine g_istore_n (l' := [(0, .ref 3), (1, .int v471), (2, .int v462)]) rfl rfl ?_
          refine g_iinc (l' := (fun v472 => [(0, .ref 3), (1, .int v471), (2, .int v472)])) rfl rfl (by decide) (by omega) (fun _ => rfl) (fun v472 ev472 => ?_)
          refine g_goto ?_
          exact ihL463 v471 v472 (by omega) (lc_st q1 (by omega) (by omega) p468) (by omega) (by omega) (by omega)
        · refine g_iconst (by decide) (fun v473 kv473 => ?_)
          refine g_goto ?_
          refine g_iadd' (fun v474 ov474 => ?_)
          have sv474 : v474.toInt = v461.toInt + v473.toInt := gz_add_of ov474 (by omega)
          refine g_istore_n (l' := [(0, .ref 3), (1, .int v474), (2, .int v462)]) rfl rfl ?_
          refine g_iinc (l' := (fun v475 => [(0, .ref 3), (1, .int v474), (2, .int v475)])) rfl rfl (by decide) (by omega) (fun _ => rfl) (fun v475 ev475 => ?_)
          refine g_goto ?_
          exact ihL463 v474 v475 (by omega) (lc_st q1 (by omega) (by omega) p468) (by omega) (by omega) (by omega)
  exact L463 _ v459 v460 (by omega) (by rw [show v460.toInt.toNat = 0 by omega]; show v459.toInt = 0; omega) (by omega) (by omega) (Nat.lt_succ_self _)
set_option maxRecDepth 4000 in
set_option maxHeartbeats 4000000 in
/-- M.isLate -/
theorem e_204 (a1 : Int32) (ha1 : 0 ≤ a1.toInt ∧ a1.toInt ≤ 59) (H : mzH) (hI : gI SM H) (hJ : JN H) : gCall 204 [.ref 0, .int a1] H (gRi (fun v H' => H = H' ∧ (0 ≤ v.toInt ∧ v.toInt ≤ 1) ∧ ((v.toInt = 1 ∧ lS (hM H) a1.toInt.toNat a1.toInt.toNat = true) ∨ (v.toInt = 0 ∧ lS (hM H) a1.toInt.toNat a1.toInt.toNat = false)))) := by
  refine gG_call [(0, .ref 0), (1, .int a1)] ⟨rfl, rfl, trivial⟩ ?_
  show gG 3 zB_204 (mzBlk zB_204 0) [(0, .ref 0), (1, .int a1)] [] H 0 0 _
  refine g_iconst (by decide) (fun v226 kv226 => ?_)
  refine g_istore_n (l' := [(0, .ref 0), (1, .int a1), (2, .int v226)]) rfl rfl ?_
  refine g_nop ?_
  have L228 : ∀ (N : Nat) (v227 : Int32), (0 ≤ v227.toInt ∧ v227.toInt ≤ 59) → lS (hM H) a1.toInt.toNat v227.toInt.toNat = false → v227.toInt ≤ a1.toInt → (59 - v227.toInt).toNat < N → gG 3 zB_204 (mzBlk zB_204 1) [(0, .ref 0), (1, .int a1), (2, .int v227)] [] H 0 0 (gRi (fun v H' => H = H' ∧ (0 ≤ v.toInt ∧ v.toInt ≤ 1) ∧ ((v.toInt = 1 ∧ lS (hM H) a1.toInt.toNat a1.toInt.toNat = true) ∨ (v.toInt = 0 ∧ lS (hM H) a1.toInt.toNat a1.toInt.toNat = false)))) := by
    intro N
    induction N with
    | zero => intro v227 bv227 q1 q2 hmL228; exact absurd hmL228 (Nat.not_lt_zero _)
    | succ N ihL228 =>
      intro v227 bv227 q1 q2 hmL228
      refine g_iload_n rfl ?_
      refine g_iload_n rfl ?_
      refine g_if2_ge (fun c229 => ?_) (fun c229 => ?_)
      · refine g_iconst (by decide) (fun v230 kv230 => ?_)
        exact g_zret (by omega) ⟨_, rfl, rfl, (by omega), (Or.inr ⟨by omega, ls_end q1 (by omega)⟩)⟩
      · refine g_aload_n rfl ?_
        refine g_iload_n rfl ?_
        refine g_iconst (by decide) (fun v231 kv231 => ?_)
        refine g_invvi hI sm_0 rfl rfl rfl rfl (s_181 v227 (by omega) v231 (by omega) H hI hJ) (fun v234 H232 r233 => ?_)
        obtain ⟨rfl, p235⟩ := r233
        have yv234 : v234.toInt = (aZ H 2 (69 + 5 * v227.toInt.toNat)).toInt := by rw [p235, show (69 + 5 * v227.toInt + v231.toInt).toNat = 69 + 5 * v227.toInt.toNat by omega]
        refine g_aload_n rfl ?_
        refine g_iload_n rfl ?_
        refine g_iconst (by decide) (fun v236 kv236 => ?_)
        refine g_invvi hI sm_0 rfl rfl rfl rfl (s_181 a1 (by omega) v236 (by omega) H hI hJ) (fun v239 H237 r238 => ?_)
        obtain ⟨rfl, p240⟩ := r238
        have yv239 : v239.toInt = (aZ H 2 (69 + 5 * a1.toInt.toNat)).toInt := by rw [p240, show (69 + 5 * a1.toInt + v236.toInt).toNat = 69 + 5 * a1.toInt.toNat by omega]
        refine g_if2_le (fun c241 => ?_) (fun c241 => ?_)
        · refine g_iinc (l' := (fun v242 => [(0, .ref 0), (1, .int a1), (2, .int v242)])) rfl rfl (by decide) (by omega) (fun _ => rfl) (fun v242 ev242 => ?_)
          refine g_goto ?_
          exact ihL228 v242 (by omega) (ls_no q1 (by omega) (by unfold hM; omega)) (by omega) (by omega)
        · refine g_iconst (by decide) (fun v243 kv243 => ?_)
          exact g_zret (by omega) ⟨_, rfl, rfl, (by omega), (Or.inl ⟨by omega, ls_yes (j := v227.toInt.toNat) (by omega) (by unfold hM; omega)⟩)⟩
  exact L228 _ v226 (by omega) (ls_0 (by omega)) (by omega) (Nat.lt_succ_self _)
set_option maxRecDepth 4000 in
set_option maxHeartbeats 4000000 in
/-- M.lates -/
theorem e_252 (H : mzH) (hI : gI SM H) (hJ : JN H) : gCall 252 [.ref 0] H (gRi (fun v H' => H = H' ∧ v.toInt = (lC (hM H) (aZ H 2 2).toInt.toNat : Int))) := by
  refine gG_call [(0, .ref 0)] ⟨rfl, trivial⟩ ?_
  show gG 3 zB_252 (mzBlk zB_252 0) [(0, .ref 0)] [] H 0 0 _
  have w22 := JN_n22 hJ (v := aZ H 2 2) rfl
  refine g_iconst (by decide) (fun v549 kv549 => ?_)
  refine g_istore_n (l' := [(0, .ref 0), (1, .int v549)]) rfl rfl ?_
  refine g_iconst (by decide) (fun v550 kv550 => ?_)
  refine g_istore_n (l' := [(0, .ref 0), (1, .int v549), (2, .int v550)]) rfl rfl ?_
  refine g_nop ?_
  have L553 : ∀ (N : Nat) (v551 : Int32) (v552 : Int32), (0 ≤ v552.toInt ∧ v552.toInt ≤ 60) → v551.toInt = (lC (hM H) v552.toInt.toNat : Int) → (0 ≤ v551.toInt ∧ v551.toInt ≤ v552.toInt) → v552.toInt ≤ (aZ H 2 2).toInt → (60 - v552.toInt).toNat < N → gG 3 zB_252 (mzBlk zB_252 1) [(0, .ref 0), (1, .int v551), (2, .int v552)] [] H 0 0 (gRi (fun v H' => H = H' ∧ v.toInt = (lC (hM H) (aZ H 2 2).toInt.toNat : Int))) := by
    intro N
    induction N with
    | zero => intro v551 v552 bv552 q1 q3 q4 hmL553; exact absurd hmL553 (Nat.not_lt_zero _)
    | succ N ihL553 =>
      intro v551 v552 bv552 q1 q3 q4 hmL553
      refine g_iload_n rfl ?_
      refine g_aload_n rfl ?_
      refine g_invvi hI sm_0 rfl rfl rfl rfl (s_180 H hI hJ) (fun v556 H554 r555 => ?_)
      obtain ⟨rfl, bv556, p557⟩ := r555
      refine g_if2_ge (fun c558 => ?_) (fun c558 => ?_)
      · refine g_iload_n rfl ?_
        exact g_iret ⟨_, rfl, rfl, (lc_end q1 (by omega))⟩
      · refine g_iload_n rfl ?_
        refine g_aload_n rfl ?_
        refine g_iload_n rfl ?_
        refine g_invvi hI sm_0 rfl rfl rfl rfl (e_204 v552 (by omega) H hI hJ) (fun v561 H559 r560 => ?_)
        obtain ⟨rfl, bv561, p562⟩ := r560
        refine g_if_eq (fun c563 => ?_) (fun c563 => ?_)
        · refine g_iconst (by decide) (fun v564 kv564 => ?_)
          refine g_nop ?_
          refine g_iadd (by have := gz_any v551; omega) (fun v565 ev565 => ?_)
          refine g_istore_n (l' := [(0, .ref 0), (1, .int v565), (2, .int v552)]) rfl rfl ?_
          refine g_iinc (l' := (fun v566 => [(0, .ref 0), (1, .int v565), (2, .int v566)])) rfl rfl (by decide) (by omega) (fun _ => rfl) (fun v566 ev566 => ?_)
          refine g_goto ?_
          exact ihL553 v565 v566 (by omega) (lc_st q1 (by omega) (by omega) p562) (by omega) (by omega) (by omega)
        · refine g_iconst (by decide) (fun v567 kv567 => ?_)
          refine g_goto ?_
          refine g_iadd' (fun v568 ov568 => ?_)
          have sv568 : v568.toInt = v551.toInt + v567.toInt := gz_add_of ov568 (by omega)
          refine g_istore_n (l' := [(0, .ref 0), (1, .int v568), (2, .int v552)]) rfl rfl ?_
          refine g_iinc (l' := (fun v569 => [(0, .ref 0), (1, .int v568), (2, .int v569)])) rfl rfl (by decide) (by omega) (fun _ => rfl) (fun v569 ev569 => ?_)
          refine g_goto ?_
          exact ihL553 v568 v569 (by omega) (lc_st q1 (by omega) (by omega) p562) (by omega) (by omega) (by omega)
  exact L553 _ v549 v550 (by omega) (by rw [show v550.toInt.toNat = 0 by omega]; show v549.toInt = 0; omega) (by omega) (by omega) (Nat.lt_succ_self _)
set_option maxRecDepth 4000 in
set_option maxHeartbeats 4000000 in
/-- X9.count -/
theorem e_148 (a1 : Int32) (H : mzH) (hI : gI SX H) (hJ : JX H) : gCall 148 [.ref 0, .int a1] H (gRi (fun v H' => H = H' ∧ ((a1.toInt = 0 ∧ v.toInt = (fZ H 3 7).toInt) ∨ (a1.toInt = 1 ∧ v.toInt = (fZ H 3 8).toInt) ∨ (a1.toInt = 2 ∧ v.toInt = (fZ H 3 9).toInt) ∨ (a1.toInt = 3 ∧ v.toInt = (lC (hX H) (fZ H 3 9).toInt.toNat : Int)) ∨ (a1.toInt = 4 ∧ v.toInt = (fZ H 3 10).toInt) ∨ (a1.toInt = 5 ∧ v.toInt = (fZ H 3 11).toInt) ∨ (a1.toInt = 6 ∧ v.toInt = (fZ H 1 1).toInt) ∨ (¬ (0 ≤ a1.toInt ∧ a1.toInt ≤ 6) ∧ v.toInt = -1)))) := by
  obtain ⟨k3_7, ek3_7⟩ : ∃ z, z = fZ H 3 7 := ⟨_, rfl⟩
  have ik3_7 : k3_7.toInt = (fZ H 3 7).toInt := by rw [← ek3_7]
  have bk3_7 : 0 ≤ k3_7.toInt ∧ k3_7.toInt ≤ 8 := by rw [ek3_7]; exact fZ_of hI sx_3 rfl
  obtain ⟨k3_8, ek3_8⟩ : ∃ z, z = fZ H 3 8 := ⟨_, rfl⟩
  have ik3_8 : k3_8.toInt = (fZ H 3 8).toInt := by rw [← ek3_8]
  obtain ⟨k3_9, ek3_9⟩ : ∃ z, z = fZ H 3 9 := ⟨_, rfl⟩
  have ik3_9 : k3_9.toInt = (fZ H 3 9).toInt := by rw [← ek3_9]
  have bk3_9 : 0 ≤ k3_9.toInt ∧ k3_9.toInt ≤ 60 := by rw [ek3_9]; exact fZ_of hI sx_3 rfl
  obtain ⟨k3_10, ek3_10⟩ : ∃ z, z = fZ H 3 10 := ⟨_, rfl⟩
  have ik3_10 : k3_10.toInt = (fZ H 3 10).toInt := by rw [← ek3_10]
  obtain ⟨k3_11, ek3_11⟩ : ∃ z, z = fZ H 3 11 := ⟨_, rfl⟩
  have ik3_11 : k3_11.toInt = (fZ H 3 11).toInt := by rw [← ek3_11]
  obtain ⟨k1_1, ek1_1⟩ : ∃ z, z = fZ H 1 1 := ⟨_, rfl⟩
  have ik1_1 : k1_1.toInt = (fZ H 1 1).toInt := by rw [← ek1_1]
  have bk1_1 : 0 ≤ k1_1.toInt ∧ k1_1.toInt ≤ 900 := by rw [ek1_1]; exact fZ_of hI sx_1 rfl
  refine gG_call [(0, .ref 0), (1, .int a1)] ⟨rfl, rfl, trivial⟩ ?_
  show gG 2 zB_148 (mzBlk zB_148 0) [(0, .ref 0), (1, .int a1)] [] H 0 0 _
  refine g_iload_n rfl ?_
  refine g_sw (by decide) (fun c25 => ?_) ⟨fun c25 => ?_, fun c25 => ?_, fun c25 => ?_, fun c25 => ?_, fun c25 => ?_, fun c25 => ?_, fun c25 => ?_, trivial⟩
  · refine g_iconst (by decide) (fun v26 kv26 => ?_)
    exact g_iret ⟨_, rfl, rfl, (by omega)⟩
  · refine g_aload_n rfl ?_
    refine g_gfr hI sx_0 rfl ?_
    refine g_gfk hI sx_3 rfl ek3_7 ?_
    exact g_iret ⟨_, rfl, rfl, (by omega)⟩
  · refine g_aload_n rfl ?_
    refine g_gfr hI sx_0 rfl ?_
    refine g_gfk hI sx_3 rfl ek3_8 ?_
    exact g_iret ⟨_, rfl, rfl, (by omega)⟩
  · refine g_aload_n rfl ?_
    refine g_gfr hI sx_0 rfl ?_
    refine g_gfk hI sx_3 rfl ek3_9 ?_
    exact g_iret ⟨_, rfl, rfl, (by omega)⟩
  · refine g_aload_n rfl ?_
    refine g_gfr hI sx_0 rfl ?_
    refine g_invvi hI sx_3 rfl rfl rfl rfl (e_21 H hI hJ) (fun v29 H27 r28 => ?_)
    obtain ⟨rfl, p30⟩ := r28
    exact g_iret ⟨_, rfl, rfl, (by omega)⟩
  · refine g_aload_n rfl ?_
    refine g_gfr hI sx_0 rfl ?_
    refine g_gfk hI sx_3 rfl ek3_10 ?_
    exact g_iret ⟨_, rfl, rfl, (by omega)⟩
  · refine g_aload_n rfl ?_
    refine g_gfr hI sx_0 rfl ?_
    refine g_gfk hI sx_3 rfl ek3_11 ?_
    exact g_iret ⟨_, rfl, rfl, (by omega)⟩
  · refine g_aload_n rfl ?_
    refine g_gfr hI sx_0 rfl ?_
    refine g_gfk hI sx_1 rfl ek1_1 ?_
    exact g_iret ⟨_, rfl, rfl, (by omega)⟩
set_option maxRecDepth 4000 in
set_option maxHeartbeats 4000000 in
/-- M.count -/
theorem e_251 (a1 : Int32) (H : mzH) (hI : gI SM H) (hJ : JN H) : gCall 251 [.ref 0, .int a1] H (gRi (fun v H' => gI SM H' ∧ JN H' ∧ fZ H' 0 2 = fZ H 0 2 ∧ kpM H H' ∧ ((a1.toInt = 0 ∧ v.toInt = (aZ H 2 0).toInt) ∨ (a1.toInt = 1 ∧ v.toInt = (aZ H 2 1).toInt) ∨ (a1.toInt = 2 ∧ v.toInt = (aZ H 2 2).toInt) ∨ (a1.toInt = 3 ∧ v.toInt = (lC (hM H) (aZ H 2 2).toInt.toNat : Int)) ∨ (a1.toInt = 4 ∧ v.toInt = (aZ H 2 3).toInt) ∨ (a1.toInt = 5 ∧ v.toInt = (aZ H 2 4).toInt) ∨ (a1.toInt = 6 ∧ v.toInt = (fZ H 0 2).toInt) ∨ (¬ (0 ≤ a1.toInt ∧ a1.toInt ≤ 6) ∧ v.toInt = -1)))) := by
  obtain ⟨k0_2, ek0_2⟩ : ∃ z, z = fZ H 0 2 := ⟨_, rfl⟩
  have ik0_2 : k0_2.toInt = (fZ H 0 2).toInt := by rw [← ek0_2]
  have bk0_2 : 0 ≤ k0_2.toInt ∧ k0_2.toInt ≤ 900 := by rw [ek0_2]; exact fZ_of hI sm_0 rfl
  have mkfr : kpM H H := kpM_r
  refine gG_call [(0, .ref 0), (1, .int a1)] ⟨rfl, rfl, trivial⟩ ?_
  show gG 2 zB_251 (mzBlk zB_251 0) [(0, .ref 0), (1, .int a1)] [] H 0 0 _
  refine g_aload_n rfl ?_
  refine g_iconst (by decide) (fun v89 kv89 => ?_)
  refine g_pfi hI sm_0 rfl (gz_any _) (fun H90 eH90 hIH90 => ?_)
  have hJH90 : JN H90 := JN_sF eH90 hJ
  have e91 : k0_2 = fZ H90 0 2 := by rw [eH90, fZ_sF_ne (by decide)]; exact ek0_2
  have m92 : kpM H H90 := kpM_F mkfr eH90 (by omega)
  have ie91 : k0_2.toInt = (fZ H90 0 2).toInt := by rw [← e91]
  refine g_iload_n rfl ?_
  refine g_sw (by decide) (fun c93 => ?_) ⟨fun c93 => ?_, fun c93 => ?_, fun c93 => ?_, fun c93 => ?_, fun c93 => ?_, fun c93 => ?_, fun c93 => ?_, trivial⟩
  · refine g_iconst (by decide) (fun v94 kv94 => ?_)
    exact g_iret ⟨_, rfl, hIH90, hJH90, (e91.symm.trans ek0_2), m92, (by omega)⟩
  · refine g_aload_n rfl ?_
    refine g_gfr hIH90 sm_0 rfl ?_
    refine g_iconst (by decide) (fun v95 kv95 => ?_)
    refine g_iaload hIH90 sm_2 rfl (by omega) (fun v96 ev96 lv96 uv96 => ?_)
    have yv96 : v96.toInt = (aZ H 2 0).toInt := by rw [ev96, show v95.toInt.toNat = 0 from by omega, eH90, aZ_sF]
    have qv96 := JN_n20 hJH90 (v := v96) (by rw [ev96, show v95.toInt.toNat = 0 from by omega])
    exact g_iret ⟨_, rfl, hIH90, hJH90, (e91.symm.trans ek0_2), m92, (by omega)⟩
  · refine g_aload_n rfl ?_
    refine g_gfr hIH90 sm_0 rfl ?_
    refine g_iconst (by decide) (fun v97 kv97 => ?_)
    refine g_iaload hIH90 sm_2 rfl (by omega) (fun v98 ev98 lv98 uv98 => ?_)
    have yv98 : v98.toInt = (aZ H 2 1).toInt := by rw [ev98, show v97.toInt.toNat = 1 from by omega, eH90, aZ_sF]
    exact g_iret ⟨_, rfl, hIH90, hJH90, (e91.symm.trans ek0_2), m92, (by omega)⟩
  · refine g_aload_n rfl ?_
    refine g_invvi hIH90 sm_0 rfl rfl rfl rfl (s_180 H90 hIH90 hJH90) (fun v101 H99 r100 => ?_)
    obtain ⟨rfl, bv101, p102⟩ := r100
    have yv101 : v101.toInt = (aZ H 2 2).toInt := by rw [p102, eH90, aZ_sF]
    exact g_iret ⟨_, rfl, hIH90, hJH90, (e91.symm.trans ek0_2), m92, (by omega)⟩
  · refine g_aload_n rfl ?_
    refine g_invvi hIH90 sm_0 rfl rfl rfl rfl (e_252 H90 hIH90 hJH90) (fun v105 H103 r104 => ?_)
    obtain ⟨rfl, p106⟩ := r104
    have yv105 : v105.toInt = (lC (hM H) (aZ H 2 2).toInt.toNat : Int) := by rw [p106, hM_F eH90, eH90, aZ_sF]
    exact g_iret ⟨_, rfl, hIH90, hJH90, (e91.symm.trans ek0_2), m92, (by omega)⟩
  · refine g_aload_n rfl ?_
    refine g_gfr hIH90 sm_0 rfl ?_
    refine g_iconst (by decide) (fun v107 kv107 => ?_)
    refine g_iaload hIH90 sm_2 rfl (by omega) (fun v108 ev108 lv108 uv108 => ?_)
    have yv108 : v108.toInt = (aZ H 2 3).toInt := by rw [ev108, show v107.toInt.toNat = 3 from by omega, eH90, aZ_sF]
    exact g_iret ⟨_, rfl, hIH90, hJH90, (e91.symm.trans ek0_2), m92, (by omega)⟩
  · refine g_aload_n rfl ?_
    refine g_gfr hIH90 sm_0 rfl ?_
    refine g_iconst (by decide) (fun v109 kv109 => ?_)
    refine g_iaload hIH90 sm_2 rfl (by omega) (fun v110 ev110 lv110 uv110 => ?_)
    have yv110 : v110.toInt = (aZ H 2 4).toInt := by rw [ev110, show v109.toInt.toNat = 4 from by omega, eH90, aZ_sF]
    exact g_iret ⟨_, rfl, hIH90, hJH90, (e91.symm.trans ek0_2), m92, (by omega)⟩
  · refine g_aload_n rfl ?_
    refine g_gfk hIH90 sm_0 rfl e91 ?_
    exact g_iret ⟨_, rfl, hIH90, hJH90, (e91.symm.trans ek0_2), m92, (by omega)⟩
