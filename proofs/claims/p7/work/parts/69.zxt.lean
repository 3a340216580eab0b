/-! LATE ONES -/
def lS (h : Nat → Int) (k : Nat) : Nat → Bool
  | 0 => false
  | j + 1 => lS h k j || decide (h k < h j)
def lC (h : Nat → Int) : Nat → Nat
  | 0 => 0
  | n + 1 => lC h n + (if lS h n n = true then 1 else 0)
theorem ls_0 {h : Nat → Int} {k j : Nat} (hj : j = 0) : lS h k j = false := by subst hj; rfl
theorem ls_no {h : Nat → Int} {k j i : Nat} (q : lS h k j = false) (hi : i = j + 1) (hn : ¬ h k < h j) : lS h k i = false := by
  subst hi
  unfold lS
  rw [q, decide_eq_false hn]
  rfl
theorem ls_yes {h : Nat → Int} {k j : Nat} : ∀ {n : Nat}, j < n → h k < h j → lS h k n = true
  | 0, hj, _ => absurd hj (Nat.not_lt_zero _)
  | n + 1, hj, hl => by
    unfold lS
    if e : j = n then
      subst e
      rw [decide_eq_true hl, Bool.or_true]
    else rw [ls_yes (n := n) (by omega) hl, Bool.true_or]
theorem ls_end {h : Nat → Int} {k j n : Nat} (q : lS h k j = false) (e : j = n) : lS h k n = false := e ▸ q
theorem lS_cg {f g : Nat → Int} {k N : Nat} (h : ∀ q, q < N → f q = g q) (hk : k < N) : ∀ {j : Nat}, j ≤ N → lS f k j = lS g k j
  | 0, _ => rfl
  | j + 1, hj => by
    unfold lS
    rw [lS_cg h hk (j := j) (by omega), h k hk, h j (by omega)]
def hX (H : mzH) (k : Nat) : Int := (aZ H 6 k).toInt
def hM (H : mzH) (k : Nat) : Int := (aZ H 2 (69 + 5 * k)).toInt
/-! WHAT message ANSWERS -/
/-- the answer to message(k, w), where there is one -/
def mgV (H : mzH) (k w v : Int) : Prop := (w = 0 ∧ v = (aZ H 6 k.toNat).toInt) ∨ (w = 1 ∧ v = (aZ H 7 k.toNat).toInt) ∨ (w = 2 ∧ v = (aZ H 8 k.toNat).toInt) ∨ (w = 3 ∧ v = (aZ H 9 k.toNat).toInt) ∨ (w = 4 ∧ v = (aZ H 42 k.toNat).toInt) ∨ (w = 5 ∧ 0 ≤ v ∧ v.toNat < (fZ H 25 2).toInt.toNat ∧ odX H v.toNat = k.toNat) ∨ (w = 6 ∧ ((v = 1 ∧ lS (hX H) k.toNat k.toNat = true) ∨ (v = 0 ∧ lS (hX H) k.toNat k.toNat = false)))
theorem mg_0 {H : mzH} {k w v : Int} (e : w = 0) (h : v = (aZ H 6 k.toNat).toInt) : mgV H k w v := (Or.inl ⟨e, h⟩)
theorem mg_1 {H : mzH} {k w v : Int} (e : w = 1) (h : v = (aZ H 7 k.toNat).toInt) : mgV H k w v := Or.inr ((Or.inl ⟨e, h⟩))
theorem mg_2 {H : mzH} {k w v : Int} (e : w = 2) (h : v = (aZ H 8 k.toNat).toInt) : mgV H k w v := Or.inr (Or.inr ((Or.inl ⟨e, h⟩)))
theorem mg_3 {H : mzH} {k w v : Int} (e : w = 3) (h : v = (aZ H 9 k.toNat).toInt) : mgV H k w v := Or.inr (Or.inr (Or.inr ((Or.inl ⟨e, h⟩))))
theorem mg_4 {H : mzH} {k w v : Int} (e : w = 4) (h : v = (aZ H 42 k.toNat).toInt) : mgV H k w v := Or.inr (Or.inr (Or.inr (Or.inr ((Or.inl ⟨e, h⟩)))))
/-- what the law's own message answers, what it lays into out -/
def msX (H : mzH) (k w v : Int) (x : Int64) : Prop := (v = 1 ∧ ¬ (0 ≤ k ∧ k < (fZ H 3 9).toInt)) ∨ (v = 2 ∧ (0 ≤ k ∧ k < (fZ H 3 9).toInt) ∧ (w < 0 ∨ 6 < w)) ∨ (v = 0 ∧ (0 ≤ k ∧ k < (fZ H 3 9).toInt) ∧ (0 ≤ w ∧ w ≤ 6) ∧ ∃ r : Int32, x = r.toInt64 ∧ mgV H k w r.toInt)
theorem mg_5 {H : mzH} {k w v : Int} (e : w = 5) (h : 0 ≤ v) (p : v.toNat < (fZ H 25 2).toInt.toNat ∧ odX H v.toNat = k.toNat) : mgV H k w v := Or.inr (Or.inr (Or.inr (Or.inr (Or.inr (Or.inl ⟨e, h, p.1, p.2⟩)))))
theorem mg_6 {H : mzH} {k w v : Int} (e : w = 6) (h : (v = 1 ∧ lS (hX H) k.toNat k.toNat = true) ∨ (v = 0 ∧ lS (hX H) k.toNat k.toNat = false)) : mgV H k w v := Or.inr (Or.inr (Or.inr (Or.inr (Or.inr (Or.inr ⟨e, h⟩)))))
set_option maxRecDepth 4000 in
set_option maxHeartbeats 4000000 in
/-- X1.isLate -/
theorem w_20  (a1 : Int32) (ha1 : 0 ≤ a1.toInt ∧ a1.toInt ≤ 59) (H : mzH) (hI : gI SX H) (hJ : JX H) (hp0 : a1.toInt < (fZ H 3 9).toInt) : gCall 20 [.ref 3, .int a1] H (gRi (fun v H' => H = H' ∧ (0 ≤ v.toInt ∧ v.toInt ≤ 1) ∧ ((v.toInt = 1 ∧ lS (hX H) a1.toInt.toNat a1.toInt.toNat = true) ∨ (v.toInt = 0 ∧ lS (hX H) a1.toInt.toNat a1.toInt.toNat = false)))) := by
  obtain ⟨k3_9, ek3_9⟩ : ∃ z, z = fZ H 3 9 := ⟨_, rfl⟩
  have ik3_9 : k3_9.toInt = (fZ H 3 9).toInt := by rw [← ek3_9]
  have bk3_9 : 0 ≤ k3_9.toInt ∧ k3_9.toInt ≤ 60 := by rw [ek3_9]; exact fZ_of hI sx_3 rfl
  refine gG_call [(0, .ref 3), (1, .int a1)] ⟨rfl, rfl, trivial⟩ ?_
  show gG 3 zB_20 (mzBlk zB_20 0) [(0, .ref 3), (1, .int a1)] [] H 0 0 _
  refine g_iconst (by decide) (fun v161 kv161 => ?_)
  refine g_istore_n (l' := [(0, .ref 3), (1, .int a1), (2, .int v161)]) rfl rfl ?_
  refine g_nop ?_
  have L163 : ∀ (N : Nat) (v162 : Int32), (0 ≤ v162.toInt ∧ v162.toInt ≤ 59) → lS (hX H) a1.toInt.toNat v162.toInt.toNat = false → v162.toInt ≤ a1.toInt → (59 - v162.toInt).toNat < N → gG 3 zB_20 (mzBlk zB_20 1) [(0, .ref 3), (1, .int a1), (2, .int v162)] [] H 0 0 (gRi (fun v H' => H = H' ∧ (0 ≤ v.toInt ∧ v.toInt ≤ 1) ∧ ((v.toInt = 1 ∧ lS (hX H) a1.toInt.toNat a1.toInt.toNat = true) ∨ (v.toInt = 0 ∧ lS (hX H) a1.toInt.toNat a1.toInt.toNat = false)))) := by
    intro N
    induction N with
    | zero => intro v162 bv162 q1 q2 hmL163; exact absurd hmL163 (Nat.not_lt_zero _)
    | succ N ihL163 =>
      intro v162 bv162 q1 q2 hmL163
      refine g_iload_n rfl ?_
      refine g_iload_n rfl ?_
      refine g_if2_ge (fun c164 => ?_) (fun c164 => ?_)
      · refine g_iconst (by decide) (fun v165 kv165 => ?_)
        exact g_zret (by omega) ⟨_, rfl, rfl, (by omega), (Or.inr ⟨by omega, ls_end q1 (by omega)⟩)⟩
      · refine g_iload_n rfl ?_
        refine g_aload_n rfl ?_
        refine g_gfk hI sx_3 rfl ek3_9 ?_
        refine g_if2_ge (fun c166 => ?_) (fun c166 => ?_)
        · refine g_iconst (by decide) (fun v167 kv167 => ?_)
          exact g_zret (by omega) ⟨_, rfl, rfl, (by omega), (Or.inr ⟨by omega, ls_end q1 (by omega)⟩)⟩
        · refine g_aload_n rfl ?_
          refine g_gfr hI sx_3 rfl ?_
          refine g_iload_n rfl ?_
          refine g_iaload hI sx_6 rfl (by omega) (fun v168 ev168 lv168 uv168 => ?_)
          have yv168 : v168.toInt = (aZ H 6 v162.toInt.toNat).toInt := by rw [ev168]
          refine g_aload_n rfl ?_
          refine g_gfr hI sx_3 rfl ?_
          refine g_iload_n rfl ?_
          refine g_iaload hI sx_6 rfl (by omega) (fun v169 ev169 lv169 uv169 => ?_)
          have yv169 : v169.toInt = (aZ H 6 a1.toInt.toNat).toInt := by rw [ev169]
          refine g_if2_le (fun c170 => ?_) (fun c170 => ?_)
          · refine g_iinc (l' := (fun v171 => [(0, .ref 3), (1, .int a1), (2, .int v171)])) rfl rfl (by decide) (by omega) (fun _ => rfl) (fun v171 ev171 => ?_)
            refine g_goto ?_
            exact ihL163 v171 (by omega) (ls_no q1 (by omega) (by unfold hX; omega)) (by omega) (by omega)
          · refine g_iconst (by decide) (fun v172 kv172 => ?_)
            exact g_zret (by omega) ⟨_, rfl, rfl, (by omega), (Or.inl ⟨by omega, ls_yes (j := v162.toInt.toNat) (by omega) (by unfold hX; omega)⟩)⟩
  exact L163 _ v161 (by omega) (ls_0 (by omega)) (by omega) (Nat.lt_succ_self _)
set_option maxRecDepth 4000 in
set_option maxHeartbeats 4000000 in
/-- X9.message -/
theorem w_119  (a1 : Int32) (a2 : Int32) (ha2 : 0 ≤ a2.toInt ∧ a2.toInt ≤ 6) (H : mzH) (hI : gI SX H) (hJ : JX H) (hp0 : gCall 12 [.ref 3, .int a1] H (gRi (fun v H' => H = H' ∧ (1 ≤ v.toInt ∧ v.toInt ≤ 1) ∧ (0 ≤ a1.toInt ∧ a1.toInt ≤ 59)))) (hp1 : cvX H) (hp2 : a1.toInt < (fZ H 25 2).toInt) (hp3 : a1.toInt < (fZ H 3 9).toInt) : gCall 119 [.ref 0, .int a1, .int a2] H (gRi (fun v H' => H = H' ∧ mgV H a1.toInt a2.toInt v.toInt)) := by
  refine gG_call [(0, .ref 0), (1, .int a1), (2, .int a2)] ⟨rfl, rfl, rfl, trivial⟩ ?_
  show gG 3 zB_119 (mzBlk zB_119 0) [(0, .ref 0), (1, .int a1), (2, .int a2)] [] H 0 0 _
  refine g_aload_n rfl ?_
  refine g_gfr hI sx_0 rfl ?_
  refine g_iload_n rfl ?_
  refine g_invvi hI sx_3 rfl rfl rfl rfl (hp0) (fun v91 H89 r90 => ?_)
  obtain ⟨rfl, bv91, p92⟩ := r90
  refine g_if_ne (fun c93 => ?_) (fun c93 => ?_)
  · refine g_iload_n rfl ?_
    refine g_sw (by decide) (fun c94 => ?_) ⟨fun c94 => ?_, fun c94 => ?_, fun c94 => ?_, fun c94 => ?_, fun c94 => ?_, fun c94 => ?_, fun c94 => ?_, trivial⟩
    · exfalso; omega
    · refine g_aload_n rfl ?_
      refine g_gfr hI sx_0 rfl ?_
      refine g_gfr hI sx_3 rfl ?_
      refine g_iload_n rfl ?_
      refine g_iaload hI sx_6 rfl (by omega) (fun v95 ev95 lv95 uv95 => ?_)
      have yv95 : v95.toInt = (aZ H 6 a1.toInt.toNat).toInt := by rw [ev95]
      exact g_iret ⟨_, rfl, rfl, (mg_0 (by omega) yv95)⟩
    · refine g_aload_n rfl ?_
      refine g_gfr hI sx_0 rfl ?_
      refine g_gfr hI sx_3 rfl ?_
      refine g_iload_n rfl ?_
      refine g_iaload hI sx_7 rfl (by omega) (fun v96 ev96 lv96 uv96 => ?_)
      have yv96 : v96.toInt = (aZ H 7 a1.toInt.toNat).toInt := by rw [ev96]
      exact g_iret ⟨_, rfl, rfl, (mg_1 (by omega) yv96)⟩
    · refine g_aload_n rfl ?_
      refine g_gfr hI sx_0 rfl ?_
      refine g_gfr hI sx_3 rfl ?_
      refine g_iload_n rfl ?_
      refine g_iaload hI sx_8 rfl (by omega) (fun v97 ev97 lv97 uv97 => ?_)
      have yv97 : v97.toInt = (aZ H 8 a1.toInt.toNat).toInt := by rw [ev97]
      exact g_iret ⟨_, rfl, rfl, (mg_2 (by omega) yv97)⟩
    · refine g_aload_n rfl ?_
      refine g_gfr hI sx_0 rfl ?_
      refine g_gfr hI sx_3 rfl ?_
      refine g_iload_n rfl ?_
      refine g_iaload hI sx_9 rfl (by omega) (fun v98 ev98 lv98 uv98 => ?_)
      have yv98 : v98.toInt = (aZ H 9 a1.toInt.toNat).toInt := by rw [ev98]
      exact g_iret ⟨_, rfl, rfl, (mg_3 (by omega) yv98)⟩
    · refine g_aload_n rfl ?_
      refine g_gfr hI sx_0 rfl ?_
      refine g_gfr hI sx_24 rfl ?_
      refine g_iload_n rfl ?_
      refine g_iaload hI sx_42 rfl (by omega) (fun v99 ev99 lv99 uv99 => ?_)
      have yv99 : v99.toInt = (aZ H 42 a1.toInt.toNat).toInt := by rw [ev99]
      exact g_iret ⟨_, rfl, rfl, (mg_4 (by omega) yv99)⟩
    · refine g_aload_n rfl ?_
      refine g_gfr hI sx_0 rfl ?_
      refine g_gfr hI sx_24 rfl ?_
      refine g_iload_n rfl ?_
      refine g_invvi hI sx_25 rfl rfl rfl rfl (w_26 a1 (by omega) H hI hJ) (fun v102 H100 r101 => ?_)
      obtain ⟨rfl, bv102, p103⟩ := r101
      exact g_iret ⟨_, rfl, rfl, (mg_5 (by omega) (sp_ge hp1 hp2 p103 (by omega)) (sp_hit hp1 hp2 p103 (by omega)))⟩
    · refine g_aload_n rfl ?_
      refine g_gfr hI sx_0 rfl ?_
      refine g_iload_n rfl ?_
      refine g_invvi hI sx_3 rfl rfl rfl rfl (w_20 a1 (by omega) H hI hJ (by omega)) (fun v106 H104 r105 => ?_)
      obtain ⟨rfl, bv106, p107⟩ := r105
      refine g_if_eq (fun c108 => ?_) (fun c108 => ?_)
      · refine g_iconst (by decide) (fun v109 kv109 => ?_)
        refine g_nop ?_
        exact g_iret ⟨_, rfl, rfl, (mg_6 (by omega) (by (rcases p107 with z | z <;> first | exact Or.inl ⟨by omega, z.2⟩ | exact Or.inr ⟨by omega, z.2⟩ | (exfalso; omega))))⟩
      · refine g_iconst (by decide) (fun v110 kv110 => ?_)
        refine g_goto ?_
        exact g_iret ⟨_, rfl, rfl, (mg_6 (by omega) (by (rcases p107 with z | z <;> first | exact Or.inl ⟨by omega, z.2⟩ | exact Or.inr ⟨by omega, z.2⟩ | (exfalso; omega))))⟩
  · exfalso; omega
