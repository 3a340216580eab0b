/-! THE REFERENCE'S message -/
theorem hM_kp {H B : mzH} (k : kpM H B) : hM B = hM H := by
  funext q
  unfold hM
  rw [k.1 2 (by decide)]
def orF (H : mzH) (k v : Int) : Prop := (0 ≤ v ∧ v < 60) ∧ (aZ H 19 v.toNat).toInt = k ∧ ∀ j : Nat, j < v.toNat → ¬ (aZ H 19 j).toInt = k
def mgM (H : mzH) (k w v : Int) : Prop := (w < 4 ∧ v = (aZ H 2 (69 + 5 * k.toNat + w.toNat)).toInt) ∨ (w = 4 ∧ ∃ A : mzH, tkW H A ∧ ∃ G : mzH, clR (rgM G) (mdM G) ∧ ∃ x : Nat, x < cnM A ∧ odM A x = k.toNat ∧ v = rvM A G x) ∨ (w = 5 ∧ ∃ A : mzH, tkW H A ∧ 0 ≤ v ∧ v.toNat < cnM A ∧ odM A v.toNat = k.toNat) ∨ (w = 6 ∧ ((v = 1 ∧ lS (hM H) k.toNat k.toNat = true) ∨ (v = 0 ∧ lS (hM H) k.toNat k.toNat = false)))
theorem mm_0 {H : mzH} {k w v : Int} (e : w < 4) (h : v = (aZ H 2 (69 + 5 * k.toNat + w.toNat)).toInt) : mgM H k w v := Or.inl ⟨e, h⟩
theorem od_ex {H A : mzH} {k : Int} (t : tkW H A) (hk : 0 ≤ k ∧ k < (aZ H 2 2).toInt) : ∃ x : Nat, x < cnM A ∧ odM A x = k.toNat := od_mem t.2.1 (by omega) (by
  rw [show inM A k.toNat = 1 from (t.2.2 k.toNat (by omega)).2]
  decide)
theorem mm_4 {H A G B : mzH} {k w v : Int} (e : w = 4) (hk : 0 ≤ k ∧ k < (aZ H 2 2).toInt) (t : tkW H A) (c : clR (rgM G) (mdM G)) (wy : ∀ x : Nat, x < cnM A → (aZ B 20 (odM A x)).toInt = rvM A G x) (h : v = (aZ B 20 k.toNat).toInt) : mgM H k w v := by
  obtain ⟨x, hx, ex⟩ := od_ex t hk
  exact Or.inr (Or.inl ⟨e, A, t, G, c, x, hx, ex, by rw [h, ← ex, wy x hx]⟩)
theorem mm_5 {H A B : mzH} {k w v : Int} (e : w = 5) (hk : 0 ≤ k ∧ k < (aZ H 2 2).toInt) (t : tkW H A) (oi : odI B A (aZ A 2 2).toInt.toNat) (h : orF B k v) : mgM H k w v := by
  obtain ⟨x, hx, ex⟩ := od_ex t hk
  obtain ⟨h1, h2, h3⟩ := h
  have zx : (aZ B 19 x).toInt = (odM A x : Int) := oi.2 x hx
  have le : v.toNat ≤ x := Nat.le_of_not_lt (fun y => h3 x y (by omega))
  have zv : (aZ B 19 v.toNat).toInt = (odM A v.toNat : Int) := oi.2 v.toNat (Nat.lt_of_le_of_lt le hx)
  exact Or.inr (Or.inr (Or.inl ⟨e, A, t, h1.1, by omega, by omega⟩))
theorem mm_6 {H : mzH} {k w v : Int} (e : w = 6) (h : (v = 1 ∧ lS (hM H) k.toNat k.toNat = true) ∨ (v = 0 ∧ lS (hM H) k.toNat k.toNat = false)) : mgM H k w v := Or.inr (Or.inr (Or.inr ⟨e, h⟩))
set_option maxRecDepth 4000 in
theorem r_203 (a1 : Int32) (ha1 : 0 ≤ a1.toInt ∧ a1.toInt ≤ 59) (H : mzH) (hI : gI SM H) (hJ : JN H) (hp0 : ∃ p : Nat, p < 60 ∧ (aZ H 19 p).toInt = a1.toInt) : gCall 203 [.ref 0, .int a1] H (gRi (fun v H' => H = H' ∧ orF H a1.toInt v.toInt)) := by
  obtain ⟨p, hp, hpe⟩ := hp0
  refine gG_call [(0, .ref 0), (1, .int a1)] ⟨rfl, rfl, trivial⟩ ?_
  show gG 3 zB_203 (mzBlk zB_203 0) [(0, .ref 0), (1, .int a1)] [] H 0 0 _
  refine g_iconst (by decide) (fun v1 kv1 => ?_)
  refine g_istore_n (l' := [(0, .ref 0), (1, .int a1), (2, .int v1)]) rfl rfl ?_
  refine g_nop ?_
  have L : ∀ (N : Nat) (v2 : Int32), (0 ≤ v2.toInt ∧ v2.toInt ≤ p) → (∀ j : Nat, j < v2.toInt.toNat → ¬ (aZ H 19 j).toInt = a1.toInt) → (p - v2.toInt).toNat < N → gG 3 zB_203 (mzBlk zB_203 1) [(0, .ref 0), (1, .int a1), (2, .int v2)] [] H 0 0 (gRi (fun v H' => H = H' ∧ orF H a1.toInt v.toInt)) := by
    intro N
    induction N with
    | zero => intro v2 _ _ hm; exact absurd hm (Nat.not_lt_zero _)
    | succ N ih =>
      intro v2 b2 hq hm
      refine g_aload_n rfl ?_
      refine g_gfr hI sm_0 rfl ?_
      refine g_iload_n rfl ?_
      refine g_iaload hI sm_19 rfl (by omega) (fun v3 ev3 lv3 uv3 => ?_)
      have y3 : v3.toInt = (aZ H 19 v2.toInt.toNat).toInt := by rw [ev3]
      refine g_iload_n rfl ?_
      refine g_if2_eq (fun c => ?_) (fun c => ?_)
      · refine g_iload_n rfl ?_
        exact g_iret ⟨_, rfl, rfl, by omega, by omega, hq⟩
      · have hne : ¬ v2.toInt = p := fun h => c (by rw [ev3, show v2.toInt.toNat = p by omega]; exact hpe)
        refine g_iinc (l' := (fun v4 => [(0, .ref 0), (1, .int a1), (2, .int v4)])) rfl rfl (by decide) (by omega) (fun _ => rfl) (fun v4 ev4 => ?_)
        refine g_goto ?_
        exact ih v4 (by omega) (fun j hj => by
          if e : j = v2.toInt.toNat then
            rw [e]
            omega
          else exact hq j (by omega)) (by omega)
  exact L _ v1 (by omega) (fun j hj => by omega) (Nat.lt_succ_self _)
set_option maxRecDepth 4000 in
set_option maxHeartbeats 4000000 in
/-- M.isLate -/
theorem r_204 (a1 : Int32) (ha1 : 0 ≤ a1.toInt ∧ a1.toInt ≤ 59) (H : mzH) (hI : gI SM H) (hJ : JN H) : gCall 204 [.ref 0, .int a1] H (gRi (fun v H' => H = H' ∧ (0 ≤ v.toInt ∧ v.toInt ≤ 1) ∧ ((v.toInt = 1 ∧ lS (hM H) a1.toInt.toNat a1.toInt.toNat = true) ∨ (v.toInt = 0 ∧ lS (hM H) a1.toInt.toNat a1.toInt.toNat = false)))) := by
  refine gG_call [(0, .ref 0), (1, .int a1)] ⟨rfl, rfl, trivial⟩ ?_
  show gG 3 zB_204 (mzBlk zB_204 0) [(0, .ref 0), (1, .int a1)] [] H 0 0 _
  refine g_iconst (by decide) (fun v226 kv226 => ?_)
  refine g_istore_n (l' := [(0, .ref 0), (1, .int a1), (2, .int v226)]) rfl rfl ?_
  refine g_nop ?_
  have L228 : ∀ (N : Nat) (v227 : Int32), (0 ≤ v227.toInt ∧ v227.toInt ≤ 59) → lS (hM H) a1.toInt.toNat v227.toInt.toNat = false → v227.toInt ≤ a1.toInt → (59 - v227.toInt).toNat < N → gG 3 zB_204 (mzBlk zB_204 1) [(0, .ref 0), (1, .int a1), (2, .int v227)] [] H 0 0 (gRi (fun v H' => H = H' ∧ (0 ≤ v.toInt ∧ v.toInt ≤ 1) ∧ ((v.toInt = 1 ∧ lS (hM H) a1.toInt.toNat a1.toInt.toNat = true) ∨ (v.toInt = 0 ∧ lS (hM H) a1.toInt.toNat a1.toInt.toNat = false)))) := by
    intro N
    induction N with
    | zero => intro v227 bv227 q1 q2 hmL228; exact absurd hmL228 (Nat.not_lt_zero _)
    | succ N ihL228 =>
      intro v227 bv227 q1 q2 hmL228
      refine g_iload_n rfl ?_
      refine g_iload_n rfl ?_
      refine g_if2_ge (fun c229 => ?_) (fun c229 => ?_)
      · refine g_iconst (by decide) (fun v230 kv230 => ?_)
        exact g_zret (by omega) ⟨_, rfl, rfl, (by omega), (Or.inr ⟨by omega, ls_end q1 (by omega)⟩)⟩
      · refine g_aload_n rfl ?_
        refine g_iload_n rfl ?_
        refine g_iconst (by decide) (fun v231 kv231 => ?_)
        refine g_invvi hI sm_0 rfl rfl rfl rfl (s_181 v227 (by omega) v231 (by omega) H hI hJ) (fun v234 H232 r233 => ?_)
        obtain ⟨rfl, p235⟩ := r233
        have yv234 : v234.toInt = (aZ H 2 (69 + 5 * v227.toInt.toNat)).toInt := by rw [p235, show (69 + 5 * v227.toInt + v231.toInt).toNat = 69 + 5 * v227.toInt.toNat by omega]
        refine g_aload_n rfl ?_
        refine g_iload_n rfl ?_
        refine g_iconst (by decide) (fun v236 kv236 => ?_)
        refine g_invvi hI sm_0 rfl rfl rfl rfl (s_181 a1 (by omega) v236 (by omega) H hI hJ) (fun v239 H237 r238 => ?_)
        obtain ⟨rfl, p240⟩ := r238
        have yv239 : v239.toInt = (aZ H 2 (69 + 5 * a1.toInt.toNat)).toInt := by rw [p240, show (69 + 5 * a1.toInt + v236.toInt).toNat = 69 + 5 * a1.toInt.toNat by omega]
        refine g_if2_le (fun c241 => ?_) (fun c241 => ?_)
        · refine g_iinc (l' := (fun v242 => [(0, .ref 0), (1, .int a1), (2, .int v242)])) rfl rfl (by decide) (by omega) (fun _ => rfl) (fun v242 ev242 => ?_)
          refine g_goto ?_
          exact ihL228 v242 (by omega) (ls_no q1 (by omega) (by unfold hM; omega)) (by omega) (by omega)
        · refine g_iconst (by decide) (fun v243 kv243 => ?_)
          exact g_zret (by omega) ⟨_, rfl, rfl, (by omega), (Or.inl ⟨by omega, ls_yes (j := v227.toInt.toNat) (by omega) (by unfold hM; omega)⟩)⟩
  exact L228 _ v226 (by omega) (ls_0 (by omega)) (by omega) (Nat.lt_succ_self _)
