/-! THE REFERENCE'S WORLDS -/
def rwX (H : mzH) (s : pS) (md : Nat → Int) : Prop := ∀ n, n < 40 → (aZ H 7 n).toInt = md n ∧ (aZ H 8 n).toInt = s.kd n ∧ (aZ H 9 n).toInt = s.ii n ∧ (aZ H 10 n).toInt = s.pl n ∧ (aZ H 11 n).toInt = s.la n ∧ (aZ H 12 n).toInt = s.se n ∧ (aZ H 13 n).toInt = s.op n ∧ (aZ H 14 n).toInt = s.he n ∧ (aZ H 15 n).toInt = s.so n ∧ (aZ H 16 n).toInt = s.en n
/-- nothing lies deeper than in a pallet's carton -/
def dpt (s : pS) : Prop := ∀ n, n < 40 → s.ii n = -5 ∨ (0 ≤ s.ii n ∧ s.ii n < 40 ∧ (s.ii (s.ii n).toNat = -5 ∨ (0 ≤ s.ii (s.ii n).toNat ∧ s.ii (s.ii n).toNat < 40 ∧ s.ii (s.ii (s.ii n).toNat).toNat = -5)))
def dep (s : pS) (t : Nat) : Nat := if s.ii t < 0 then 0 else if s.ii (s.ii t).toNat < 0 then 1 else 2
theorem top_e {s : pS} {t : Nat} (h : s.ii t = -5) : tp s t = t := by
  unfold tp
  rw [if_pos (by omega)]
theorem top_st {s : pS} {t : Nat} (hd : dpt s) (ht : t < 40) (h : ¬ s.ii t = -5) : tp s (s.ii t).toNat = tp s t ∧ dep s (s.ii t).toNat < dep s t := by
  have k := hd t ht
  unfold tp dep
  rcases k with k | ⟨k1, k2, k3 | ⟨k3, k4, k5⟩⟩
  · omega
  · have h1 : ¬ s.ii t < 0 := by omega
    have h2 : s.ii (s.ii t).toNat < 0 := by omega
    simp [h1, h2]
  · have h1 : ¬ s.ii t < 0 := by omega
    have h2 : ¬ s.ii (s.ii t).toNat < 0 := by omega
    have h3 : s.ii (s.ii (s.ii t).toNat).toNat < 0 := by omega
    simp [h1, h2, h3]
theorem dpt_1 {s : pS} {n : Nat} (hd : dpt s) (hn : n < 40) : s.ii n = -5 ∨ (0 ≤ s.ii n ∧ s.ii n < 40) := by
  rcases hd n hn with k | ⟨k1, k2, _⟩
  · exact Or.inl k
  · exact Or.inr ⟨k1, k2⟩
def inT (s : pS) (t o : Int) : Int := if t < 0 then 0 else if t = o then 1 else inn s t.toNat o
theorem inT_go {s : pS} {t o : Int} (h : 0 ≤ t) (hn : ¬ t = o) : inT s t o = inn s t.toNat o := by
  unfold inT
  rw [if_neg (by omega), if_neg hn]
theorem inn_st {s : pS} {n : Nat} {o : Int} (hd : dpt s) (hn : n < 40) : inn s n o = inT s (s.ii n) o := by
  have k := hd n hn
  unfold inT inn
  if h1 : s.ii n < 0 then rw [if_neg (by omega), if_pos h1]
  else
    rw [if_neg h1]
    if h2 : s.ii n = o then rw [if_pos ⟨by omega, Or.inl h2⟩, if_pos h2]
    else
      rw [if_neg h2]
      if h3 : 0 ≤ s.ii (s.ii n).toNat ∧ s.ii (s.ii n).toNat = o then rw [if_pos ⟨by omega, Or.inr h3⟩, if_pos ⟨h3.1, Or.inl h3.2⟩]
      else rw [if_neg (by omega), if_neg (by omega)]
def deq (s : pS) (t : Int) : Nat := if t < 0 then 0 else dep s t.toNat + 1
theorem deq_st {s : pS} {t : Int} (hd : dpt s) (ht : 0 ≤ t ∧ t < 40) : deq s (s.ii t.toNat) < deq s t := by
  unfold deq
  rw [if_neg (show ¬ t < 0 by omega)]
  if h : s.ii t.toNat < 0 then
    rw [if_pos h]
    omega
  else
    rw [if_neg h]
    have := (top_st hd (t := t.toNat) (by omega) (by omega)).2
    omega
/-- the reference's ways -/
def wyM (H : mzH) (a b : Int) : Int := (aZ H 6 (8 * a + b).toNat).toInt
def soM (s : pS) (wy : Int → Int → Int) (t : Nat) (to hour : Int) : Int := if s.pl t = to then 0 else if hour - s.la t < wy (s.pl t) to then 1 else 0
set_option maxRecDepth 4000 in
set_option maxHeartbeats 4000000 in
/-- M.topOf -/
theorem r_185 {s : pS} {md : Nat → Int} (a1 : Int32) (ha1 : 0 ≤ a1.toInt ∧ a1.toInt ≤ 39) (H : mzH) (hI : gI SM H) (hJ : JM H) (hp0 : rwX H s md) (hp1 : dpt s) : gCall 185 [.ref 0, .int a1] H (gRi (fun v H' => H = H' ∧ (0 ≤ v.toInt ∧ v.toInt ≤ 39) ∧ v.toInt = (tp s a1.toInt.toNat : Int))) := by
  refine gG_call [(0, .ref 0), (1, .int a1)] ⟨rfl, rfl, trivial⟩ ?_
  show gG 3 zB_185 (mzBlk zB_185 0) [(0, .ref 0), (1, .int a1)] [] H 0 0 _
  refine g_iload_n rfl ?_
  refine g_istore_n (l' := [(0, .ref 0), (1, .int a1), (2, .int a1)]) rfl rfl ?_
  refine g_nop ?_
  have L22 : ∀ (N : Nat) (v21 : Int32), (0 ≤ v21.toInt ∧ v21.toInt ≤ 39) → tp s v21.toInt.toNat = tp s a1.toInt.toNat → dep s v21.toInt.toNat < N → gG 3 zB_185 (mzBlk zB_185 1) [(0, .ref 0), (1, .int a1), (2, .int v21)] [] H 0 0 (gRi (fun v H' => H = H' ∧ (0 ≤ v.toInt ∧ v.toInt ≤ 39) ∧ v.toInt = (tp s a1.toInt.toNat : Int))) := by
    intro N
    induction N with
    | zero => intro v21 bv21 q1 hmL22; exact absurd hmL22 (Nat.not_lt_zero _)
    | succ N ihL22 =>
      intro v21 bv21 q1 hmL22
      refine g_aload_n rfl ?_
      refine g_gfr hI sm_0 rfl ?_
      refine g_iload_n rfl ?_
      refine g_iaload hI sm_9 rfl (by omega) (fun v23 ev23 lv23 uv23 => ?_)
      have qv23 := JM_in hJ (by omega) ev23
      have yv23 : v23.toInt = (s).ii v21.toInt.toNat := by rw [ev23]; exact (hp0 _ (by omega)).2.2.1
      refine g_bipush (by decide) (fun v24 kv24 => ?_)
      refine g_if2_eq (fun c25 => ?_) (fun c25 => ?_)
      · refine g_iload_n rfl ?_
        exact g_iret ⟨_, rfl, rfl, (by omega), (by rw [← q1, top_e (by omega)]; omega)⟩
      · refine g_aload_n rfl ?_
        refine g_gfr hI sm_0 rfl ?_
        refine g_iload_n rfl ?_
        refine g_ialoadk hI sm_9 rfl (by omega) ev23 ?_
        refine g_istore_n (l' := [(0, .ref 0), (1, .int a1), (2, .int v23)]) rfl rfl ?_
        refine g_goto ?_
        exact ihL22 v23 (by omega) (by rw [yv23]; exact (top_st hp1 (by omega) (by omega)).1.trans q1) (by have := (top_st hp1 (t := v21.toInt.toNat) (by omega) (by omega)).2; rw [yv23]; omega)
  exact L22 _ a1 (by omega) rfl (Nat.lt_succ_self _)
set_option maxRecDepth 4000 in
set_option maxHeartbeats 4000000 in
/-- M.isWithin -/
theorem r_186 {s : pS} {md : Nat → Int} (a1 : Int32) (ha1 : 0 ≤ a1.toInt ∧ a1.toInt ≤ 39) (a2 : Int32) (ha2 : 0 ≤ a2.toInt ∧ a2.toInt ≤ 39) (H : mzH) (hI : gI SM H) (hJ : JM H) (hp0 : rwX H s md) (hp1 : dpt s) : gCall 186 [.ref 0, .int a1, .int a2] H (gRi (fun v H' => H = H' ∧ (0 ≤ v.toInt ∧ v.toInt ≤ 1) ∧ v.toInt = inn s a1.toInt.toNat a2.toInt)) := by
  refine gG_call [(0, .ref 0), (1, .int a1), (2, .int a2)] ⟨rfl, rfl, rfl, trivial⟩ ?_
  show gG 4 zB_186 (mzBlk zB_186 0) [(0, .ref 0), (1, .int a1), (2, .int a2)] [] H 0 0 _
  refine g_aload_n rfl ?_
  refine g_gfr hI sm_0 rfl ?_
  refine g_iload_n rfl ?_
  refine g_iaload hI sm_9 rfl (by omega) (fun v53 ev53 lv53 uv53 => ?_)
  have qv53 := JM_in hJ (by omega) ev53
  have yv53 : v53.toInt = (s).ii a1.toInt.toNat := by rw [ev53]; exact (hp0 _ (by omega)).2.2.1
  have ddv53 := dpt_1 hp1 (n := a1.toInt.toNat) (by omega)
  refine g_istore_n (l' := [(0, .ref 0), (1, .int a1), (2, .int a2), (3, .int v53)]) rfl rfl ?_
  refine g_nop ?_
  have L55 : ∀ (N : Nat) (v54 : Int32), (-5 ≤ v54.toInt ∧ v54.toInt ≤ 39) → inT s v54.toInt a2.toInt = inn s a1.toInt.toNat a2.toInt → (v54.toInt = -5 ∨ (0 ≤ v54.toInt ∧ v54.toInt < 40)) → deq s v54.toInt < N → gG 4 zB_186 (mzBlk zB_186 1) [(0, .ref 0), (1, .int a1), (2, .int a2), (3, .int v54)] [] H 0 0 (gRi (fun v H' => H = H' ∧ (0 ≤ v.toInt ∧ v.toInt ≤ 1) ∧ v.toInt = inn s a1.toInt.toNat a2.toInt)) := by
    intro N
    induction N with
    | zero => intro v54 bv54 q1 q2 hmL55; exact absurd hmL55 (Nat.not_lt_zero _)
    | succ N ihL55 =>
      intro v54 bv54 q1 q2 hmL55
      refine g_iload_n rfl ?_
      refine g_bipush (by decide) (fun v56 kv56 => ?_)
      refine g_if2_eq (fun c57 => ?_) (fun c57 => ?_)
      · refine g_iload_n rfl ?_
        refine g_iload_n rfl ?_
        refine g_if2_ne (fun c58 => ?_) (fun c58 => ?_)
        · refine g_iconst (by decide) (fun v59 kv59 => ?_)
          refine g_nop ?_
          exact g_zret (by omega) ⟨_, rfl, rfl, (by omega), (by rw [← q1]; unfold inT; first | (rw [if_pos (by omega)]; omega) | (rw [if_neg (by omega), if_pos (by omega)]; omega))⟩
        · exfalso; omega
      · refine g_iload_n rfl ?_
        refine g_iload_n rfl ?_
        refine g_if2_eq (fun c60 => ?_) (fun c60 => ?_)
        · refine g_iload_n rfl ?_
          refine g_iload_n rfl ?_
          refine g_if2_ne (fun c61 => ?_) (fun c61 => ?_)
          · refine g_iconst (by decide) (fun v62 kv62 => ?_)
            refine g_nop ?_
            exact g_zret (by omega) ⟨_, rfl, rfl, (by omega), (by rw [← q1]; unfold inT; first | (rw [if_pos (by omega)]; omega) | (rw [if_neg (by omega), if_pos (by omega)]; omega))⟩
          · refine g_iconst (by decide) (fun v63 kv63 => ?_)
            refine g_goto ?_
            exact g_zret (by omega) ⟨_, rfl, rfl, (by omega), (by rw [← q1]; unfold inT; first | (rw [if_pos (by omega)]; omega) | (rw [if_neg (by omega), if_pos (by omega)]; omega))⟩
        · refine g_aload_n rfl ?_
          refine g_gfr hI sm_0 rfl ?_
          refine g_iload_n rfl ?_
          refine g_iaload hI sm_9 rfl (by omega) (fun v64 ev64 lv64 uv64 => ?_)
          have qv64 := JM_in hJ (by omega) ev64
          have yv64 : v64.toInt = (s).ii v54.toInt.toNat := by rw [ev64]; exact (hp0 _ (by omega)).2.2.1
          have ddv64 := dpt_1 hp1 (n := v54.toInt.toNat) (by omega)
          refine g_istore_n (l' := [(0, .ref 0), (1, .int a1), (2, .int a2), (3, .int v64)]) rfl rfl ?_
          refine g_goto ?_
          exact ihL55 v64 (by omega) (by rw [yv64, ← inn_st hp1 (by omega), ← inT_go (by omega) (by omega)]; exact q1) (by omega) (by have := deq_st hp1 (t := v54.toInt) (by omega); rw [yv64]; omega)
  exact L55 _ v53 (by omega) (by rw [yv53]; exact (inn_st hp1 (by omega)).symm) (by omega) (Nat.lt_succ_self _)
set_option maxRecDepth 4000 in
set_option maxHeartbeats 4000000 in
/-- M.isHeld -/
theorem r_187 {s : pS} {md : Nat → Int} (a1 : Int32) (ha1 : 0 ≤ a1.toInt ∧ a1.toInt ≤ 39) (H : mzH) (hI : gI SM H) (hJ : JM H) (hp0 : rwX H s md) (hp1 : dpt s) : gCall 187 [.ref 0, .int a1] H (gRi (fun v H' => H = H' ∧ (0 ≤ v.toInt ∧ v.toInt ≤ 1) ∧ v.toInt = qwi s a1.toInt)) := by
  refine gG_call [(0, .ref 0), (1, .int a1)] ⟨rfl, rfl, trivial⟩ ?_
  show gG 3 zB_187 (mzBlk zB_187 0) [(0, .ref 0), (1, .int a1)] [] H 0 0 _
  refine g_iconst (by decide) (fun v201 kv201 => ?_)
  refine g_istore_n (l' := [(0, .ref 0), (1, .int a1), (2, .int v201)]) rfl rfl ?_
  refine g_nop ?_
  have L203 : ∀ (N : Nat) (v202 : Int32), (0 ≤ v202.toInt ∧ v202.toInt ≤ 40) → exi (qwP s a1.toInt) v202.toInt.toNat = 0 → (40 - v202.toInt).toNat < N → gG 3 zB_187 (mzBlk zB_187 1) [(0, .ref 0), (1, .int a1), (2, .int v202)] [] H 0 0 (gRi (fun v H' => H = H' ∧ (0 ≤ v.toInt ∧ v.toInt ≤ 1) ∧ v.toInt = qwi s a1.toInt)) := by
    intro N
    induction N with
    | zero => intro v202 bv202 q1 hmL203; exact absurd hmL203 (Nat.not_lt_zero _)
    | succ N ihL203 =>
      intro v202 bv202 q1 hmL203
      refine g_iload_n rfl ?_
      refine g_bipush (by decide) (fun v204 kv204 => ?_)
      refine g_if2_ge (fun c205 => ?_) (fun c205 => ?_)
      · refine g_iconst (by decide) (fun v206 kv206 => ?_)
        exact g_zret (by omega) ⟨_, rfl, rfl, (by omega), (ei_end q1 (by omega) (by omega))⟩
      · refine g_aload_n rfl ?_
        refine g_gfr hI sm_0 rfl ?_
        refine g_iload_n rfl ?_
        refine g_baload hI sm_14 rfl (by omega) (fun v207 ev207 lv207 uv207 => ?_)
        have yv207 : v207.toInt = (s).he v202.toInt.toNat := by rw [ev207]; exact (hp0 _ (by omega)).2.2.2.2.2.2.2.1
        refine g_if_eq (fun c208 => ?_) (fun c208 => ?_)
        · refine g_iinc (l' := (fun v209 => [(0, .ref 0), (1, .int a1), (2, .int v209)])) rfl rfl (by decide) (by omega) (fun _ => rfl) (fun v209 ev209 => ?_)
          refine g_goto ?_
          exact ihL203 v209 (by omega) (ei_no q1 (by omega) (fun z => by have z1 := z.1; have z2 := z.2; omega)) (by omega)
        · refine g_iload_n rfl ?_
          refine g_iload_n rfl ?_
          refine g_if2_eq (fun c210 => ?_) (fun c210 => ?_)
          · refine g_iconst (by decide) (fun v211 kv211 => ?_)
            exact g_zret (by omega) ⟨_, rfl, rfl, (by omega), (ei_yes (j := v202.toInt.toNat) (by omega) ⟨by omega, by omega⟩ (by omega))⟩
          · refine g_aload_n rfl ?_
            refine g_iload_n rfl ?_
            refine g_iload_n rfl ?_
            refine g_invvi hI sm_0 rfl rfl rfl rfl (r_186 v202 (by omega) a1 (by omega) H hI hJ hp0 hp1) (fun v214 H212 r213 => ?_)
            obtain ⟨rfl, bv214, p215⟩ := r213
            have ibv214 := inn_b (s := s) (n := v202.toInt.toNat) (o := a1.toInt)
            refine g_if_eq (fun c216 => ?_) (fun c216 => ?_)
            · refine g_iinc (l' := (fun v217 => [(0, .ref 0), (1, .int a1), (2, .int v217)])) rfl rfl (by decide) (by omega) (fun _ => rfl) (fun v217 ev217 => ?_)
              refine g_goto ?_
              exact ihL203 v217 (by omega) (ei_no q1 (by omega) (fun z => by have z1 := z.1; have z2 := z.2; omega)) (by omega)
            · refine g_nop ?_
              refine g_iconst (by decide) (fun v218 kv218 => ?_)
              exact g_zret (by omega) ⟨_, rfl, rfl, (by omega), (ei_yes (j := v202.toInt.toNat) (by omega) ⟨by omega, by omega⟩ (by omega))⟩
  exact L203 _ v201 (by omega) (ei_0 (by omega)) (Nat.lt_succ_self _)
set_option maxRecDepth 4000 in
set_option maxHeartbeats 4000000 in
/-- M.manyIn -/
theorem r_188 {s : pS} {md : Nat → Int} (a1 : Int32) (H : mzH) (hI : gI SM H) (hJ : JN H) (hp0 : rwX H s md) : gCall 188 [.ref 0, .int a1] H (gRi (fun v H' => H = H' ∧ v.toInt = hel s a1.toInt)) := by
  refine gG_call [(0, .ref 0), (1, .int a1)] ⟨rfl, rfl, trivial⟩ ?_
  show gG 4 zB_188 (mzBlk zB_188 0) [(0, .ref 0), (1, .int a1)] [] H 0 0 _
  refine g_iconst (by decide) (fun v399 kv399 => ?_)
  refine g_istore_n (l' := [(0, .ref 0), (1, .int a1), (2, .int v399)]) rfl rfl ?_
  refine g_iconst (by decide) (fun v400 kv400 => ?_)
  refine g_istore_n (l' := [(0, .ref 0), (1, .int a1), (2, .int v399), (3, .int v400)]) rfl rfl ?_
  refine g_nop ?_
  have L403 : ∀ (N : Nat) (v401 : Int32) (v402 : Int32), (0 ≤ v402.toInt ∧ v402.toInt ≤ 40) → v401.toInt = cnt (fun x => s.ii x = a1.toInt) v402.toInt.toNat → (0 ≤ v401.toInt ∧ v401.toInt ≤ v402.toInt) → (40 - v402.toInt).toNat < N → gG 4 zB_188 (mzBlk zB_188 1) [(0, .ref 0), (1, .int a1), (2, .int v401), (3, .int v402)] [] H 0 0 (gRi (fun v H' => H = H' ∧ v.toInt = hel s a1.toInt)) := by
    intro N
    induction N with
    | zero => intro v401 v402 bv402 q1 q2 hmL403; exact absurd hmL403 (Nat.not_lt_zero _)
    | succ N ihL403 =>
      intro v401 v402 bv402 q1 q2 hmL403
      refine g_iload_n rfl ?_
      refine g_bipush (by decide) (fun v404 kv404 => ?_)
      refine g_if2_ge (fun c405 => ?_) (fun c405 => ?_)
      · refine g_iload_n rfl ?_
        exact g_iret ⟨_, rfl, rfl, (cn_end q1 (by omega))⟩
      · refine g_iload_n rfl ?_
        refine g_aload_n rfl ?_
        refine g_gfr hI sm_0 rfl ?_
        refine g_iload_n rfl ?_
        refine g_iaload hI sm_9 rfl (by omega) (fun v406 ev406 lv406 uv406 => ?_)
        have yv406 : v406.toInt = (s).ii v402.toInt.toNat := by rw [ev406]; exact (hp0 _ (by omega)).2.2.1
        refine g_iload_n rfl ?_
        refine g_if2_ne (fun c407 => ?_) (fun c407 => ?_)
        · refine g_iconst (by decide) (fun v408 kv408 => ?_)
          refine g_nop ?_
          refine g_iadd (by have := gz_any v401; omega) (fun v409 ev409 => ?_)
          refine g_istore_n (l' := [(0, .ref 0), (1, .int a1), (2, .int v409), (3, .int v402)]) rfl rfl ?_
          refine g_iinc (l' := (fun v410 => [(0, .ref 0), (1, .int a1), (2, .int v409), (3, .int v410)])) rfl rfl (by decide) (by omega) (fun _ => rfl) (fun v410 ev410 => ?_)
          refine g_goto ?_
          exact ihL403 v409 v410 (by omega) (cn_n q1 (by omega) (by show ¬ s.ii _ = _; omega) (by omega)) (by omega) (by omega)
        · refine g_iconst (by decide) (fun v411 kv411 => ?_)
          refine g_goto ?_
          refine g_iadd' (fun v412 ov412 => ?_)
          have sv412 : v412.toInt = v401.toInt + v411.toInt := gz_add_of ov412 (by omega)
          refine g_istore_n (l' := [(0, .ref 0), (1, .int a1), (2, .int v412), (3, .int v402)]) rfl rfl ?_
          refine g_iinc (l' := (fun v413 => [(0, .ref 0), (1, .int a1), (2, .int v412), (3, .int v413)])) rfl rfl (by decide) (by omega) (fun _ => rfl) (fun v413 ev413 => ?_)
          refine g_goto ?_
          exact ihL403 v412 v413 (by omega) (cn_y q1 (by omega) (by show s.ii _ = _; omega) (by omega)) (by omega) (by omega)
  exact L403 _ v399 v400 (by omega) (cn_0 (by omega) (by omega)) (by omega) (Nat.lt_succ_self _)
set_option maxRecDepth 4000 in
set_option maxHeartbeats 4000000 in
/-- M.isSoon -/
theorem r_189 {s : pS} {md : Nat → Int} (a1 : Int32) (ha1 : 0 ≤ a1.toInt ∧ a1.toInt ≤ 39) (a2 : Int32) (ha2 : 0 ≤ a2.toInt ∧ a2.toInt ≤ 7) (a3 : Int32) (ha3 : 0 ≤ a3.toInt ∧ a3.toInt ≤ 999) (H : mzH) (hI : gI SM H) (hJ : JM H) (hp0 : rwX H s md) (hp1 : dpt s) (hp2 : (0 ≤ s.la (tp s a1.toInt.toNat) ∧ s.la (tp s a1.toInt.toNat) ≤ 999)) : gCall 189 [.ref 0, .int a1, .int a2, .int a3] H (gRi (fun v H' => H = H' ∧ (0 ≤ v.toInt ∧ v.toInt ≤ 1) ∧ v.toInt = soM s (wyM H) (tp s a1.toInt.toNat) a2.toInt a3.toInt)) := by
  refine gG_call [(0, .ref 0), (1, .int a1), (2, .int a2), (3, .int a3)] ⟨rfl, rfl, rfl, rfl, trivial⟩ ?_
  show gG 5 zB_189 (mzBlk zB_189 0) [(0, .ref 0), (1, .int a1), (2, .int a2), (3, .int a3)] [] H 0 0 _
  refine g_aload_n rfl ?_
  refine g_iload_n rfl ?_
  refine g_invvi hI sm_0 rfl rfl rfl rfl (r_185 a1 (by omega) H hI hJ hp0 hp1) (fun v67 H65 r66 => ?_)
  obtain ⟨rfl, bv67, p68⟩ := r66
  have tnv67 : v67.toInt.toNat = tp s a1.toInt.toNat := by omega
  refine g_istore (l' := [(0, .ref 0), (1, .int a1), (2, .int a2), (3, .int a3), (4, .int v67)]) rfl rfl ?_
  refine g_aload_n rfl ?_
  refine g_gfr hI sm_0 rfl ?_
  refine g_iload rfl ?_
  refine g_iaload hI sm_10 rfl (by omega) (fun v69 ev69 lv69 uv69 => ?_)
  have yv69 : v69.toInt = (s).pl v67.toInt.toNat := by rw [ev69]; exact (hp0 _ (by omega)).2.2.2.1
  rw [tnv67] at yv69
  refine g_iload_n rfl ?_
  refine g_if2_eq (fun c70 => ?_) (fun c70 => ?_)
  · refine g_iconst (by decide) (fun v71 kv71 => ?_)
    refine g_nop ?_
    exact g_zret (by omega) ⟨_, rfl, rfl, (by omega), (by unfold soM; first | (rw [if_pos (by omega)]; omega) | (rw [if_neg (by omega), if_pos (by omega)]; omega) | (rw [if_neg (by omega), if_neg (by omega)]; omega))⟩
  · refine g_iload_n rfl ?_
    refine g_aload_n rfl ?_
    refine g_gfr hI sm_0 rfl ?_
    refine g_iload rfl ?_
    refine g_iaload hI sm_11 rfl (by omega) (fun v72 ev72 lv72 uv72 => ?_)
    have yv72 : v72.toInt = (s).la v67.toInt.toNat := by rw [ev72]; exact (hp0 _ (by omega)).2.2.2.2.1
    rw [tnv67] at yv72
    refine g_isub' (fun v73 ov73 => ?_)
    have lbv73 := hp2
    have sv73 : v73.toInt = a3.toInt - v72.toInt := gz_sub_of ov73 (by omega)
    refine g_aload_n rfl ?_
    refine g_gfr hI sm_0 rfl ?_
    refine g_bipush (by decide) (fun v74 kv74 => ?_)
    refine g_aload_n rfl ?_
    refine g_gfr hI sm_0 rfl ?_
    refine g_iload rfl ?_
    refine g_ialoadk hI sm_10 rfl (by omega) ev69 ?_
    refine g_imulk' (n := 8) kv74 (by omega) (fun v75 ev75 => ?_)
    refine g_iload_n rfl ?_
    refine g_iadd (by omega) (fun v76 ev76 => ?_)
    refine g_iaload hI sm_6 rfl (by omega) (fun v77 ev77 lv77 uv77 => ?_)
    have wvv77 : v77.toInt = wyM H (s.pl (tp s a1.toInt.toNat)) a2.toInt := by unfold wyM; rw [ev77, show (8 * s.pl (tp s a1.toInt.toNat) + a2.toInt).toNat = v76.toInt.toNat by omega]
    refine g_if2_ge (fun c78 => ?_) (fun c78 => ?_)
    · refine g_iconst (by decide) (fun v79 kv79 => ?_)
      refine g_nop ?_
      exact g_zret (by omega) ⟨_, rfl, rfl, (by omega), (by unfold soM; first | (rw [if_pos (by omega)]; omega) | (rw [if_neg (by omega), if_pos (by omega)]; omega) | (rw [if_neg (by omega), if_neg (by omega)]; omega))⟩
    · refine g_iconst (by decide) (fun v80 kv80 => ?_)
      refine g_goto ?_
      exact g_zret (by omega) ⟨_, rfl, rfl, (by omega), (by unfold soM; first | (rw [if_pos (by omega)]; omega) | (rw [if_neg (by omega), if_pos (by omega)]; omega) | (rw [if_neg (by omega), if_neg (by omega)]; omega))⟩
