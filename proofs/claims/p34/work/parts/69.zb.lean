/-! JOINING ROADS: the class -/
def vW (H : mzH) (k : Nat) : Int32 := aZ H 13 k
def jSh (w : Nat → Int32) (i : Nat) (n : Int32) : Nat → Int32 := fun k => if k = i ∧ ((w i).toInt = -2 ∨ n.toInt < (w i).toInt) then n else w k
def jS (w : Nat → Int32) (o a b : Nat) : Nat → Int32 := if (w (8 * a + o)).toInt ≠ -2 ∧ (w (8 * o + b)).toInt ≠ -2 then jSh w (8 * a + b) (w (8 * a + o) + w (8 * o + b)) else w
def jB (w : Nat → Int32) (o a : Nat) : Nat → Nat → Int32
  | 0 => w
  | b + 1 => jS (jB w o a b) o a b
def jA (w : Nat → Int32) (o P : Nat) : Nat → Nat → Int32
  | 0 => w
  | a + 1 => jB (jA w o P a) o a P
def jO (w : Nat → Int32) (P : Nat) : Nat → Nat → Int32
  | 0 => w
  | o + 1 => jA (jO w P o) o P P
theorem jsh_y {H B : mzH} {j v : Int32} {i : Nat} (hI : gI SX H) (e : B = sA H 13 j.toInt.toNat v) (hj : j.toInt.toNat = i ∧ i < 64) (hc : (aZ H 13 i).toInt = -2 ∨ v.toInt < (aZ H 13 i).toInt) : vW B = jSh (vW H) i v := by
  funext k
  unfold jSh
  show aZ B 13 k = _
  rw [e, aZ_if hI sx_13 (by omega) hj.1]
  if q : k = i then rw [if_pos q, if_pos ⟨q, hc⟩]
  else
    rw [if_neg q, if_neg (fun z => q z.1)]
    rfl
theorem jsh_n {H : mzH} {n : Int32} {i : Nat} (hc : ¬ ((aZ H 13 i).toInt = -2 ∨ n.toInt < (aZ H 13 i).toInt)) : vW H = jSh (vW H) i n := by
  funext k
  unfold jSh
  rw [if_neg (fun z => hc z.2)]
theorem jb_0 {X W : Nat → Int32} {o a b : Nat} (q : X = W) (h : b = 0) : X = jB W o a b := by subst h; exact q
theorem jb_n {X W : Nat → Int32} {o a b b' : Nat} (q : X = jB W o a b) (hb : b' = b + 1) (h : (X (8 * a + o)).toInt = -2 ∨ (X (8 * o + b)).toInt = -2) : X = jB W o a b' := by
  subst hb
  unfold jB
  rw [← q]
  unfold jS
  rw [if_neg (by omega)]
theorem jb_y {X X' W : Nat → Int32} {o a b b' : Nat} {n : Int32} (q : X = jB W o a b) (hb : b' = b + 1) (h1 : (X (8 * a + o)).toInt ≠ -2) (h2 : (X (8 * o + b)).toInt ≠ -2) (e : X' = jSh X (8 * a + b) n) (hn : n = X (8 * a + o) + X (8 * o + b)) : X' = jB W o a b' := by
  subst hb
  unfold jB
  rw [← q]
  unfold jS
  rw [if_pos ⟨h1, h2⟩, ← hn]
  exact e
theorem ja_0 {X W : Nat → Int32} {o P a : Nat} (q : X = W) (h : a = 0) : X = jA W o P a := by subst h; exact q
theorem ja_st {X W : Nat → Int32} {o P a a' b : Nat} (q : X = jB (jA W o P a) o a b) (hb : b = P) (ha : a' = a + 1) : X = jA W o P a' := by
  subst ha hb
  exact q
theorem jo_0 {W : Nat → Int32} {P o : Nat} (h : o = 0) : W = jO W P o := by subst h; rfl
theorem jo_st {X W : Nat → Int32} {P o o' a : Nat} (q : X = jA (jO W P o) o P a) (ha : a = P) (ho : o' = o + 1) : X = jO W P o' := by
  subst ho ha
  exact q
theorem jo_end {X W : Nat → Int32} {P o o' : Nat} (q : X = jO W P o) (h : o = o') : X = jO W P o' := h ▸ q
/-! the reference -/
def uX (H : mzH) (k : Nat) : Int32 := if k < 64 then aZ H 6 k else 0
def uW (H : mzH) (k : Nat) : Int32 := if k < 64 then aZ H 2 (5 + k) else 0
def fS (w : Nat → Int32) (o a b : Nat) : Nat → Int32 := fun k => if k = 8 * a + b ∧ (w (8 * a + o) + w (8 * o + b)).toInt < (w (8 * a + b)).toInt then w (8 * a + o) + w (8 * o + b) else w k
def fB (w : Nat → Int32) (o a : Nat) : Nat → Nat → Int32
  | 0 => w
  | b + 1 => fS (fB w o a b) o a b
def fA (w : Nat → Int32) (o : Nat) : Nat → Nat → Int32
  | 0 => w
  | a + 1 => fB (fA w o a) o a 8
def fO (w : Nat → Int32) : Nat → Nat → Int32
  | 0 => w
  | o + 1 => fA (fO w o) o 8
theorem ux_cp {H B : mzH} {n : Nat} (q : ∀ i, i < n → aZ B 6 i = aZ H 2 (5 + i)) (hn : n = 64) : uX B = uW H := by
  funext k
  unfold uX uW
  if h : k < 64 then rw [if_pos h, if_pos h, q k (by omega)]
  else rw [if_neg h, if_neg h]
theorem uv_mk {H : mzH} {v : Int32} {i j : Nat} (e : v = aZ H 6 i) (h : i = j ∧ j < 64) : v = uX H j := by
  unfold uX
  rw [if_pos h.2, e, h.1]
theorem fb_0 {X W : Nat → Int32} {o a b : Nat} (q : X = W) (h : b = 0) : X = fB W o a b := by subst h; exact q
theorem fb_n {X W : Nat → Int32} {o a b b' : Nat} {v1 v2 v3 n : Int32} (q : X = fB W o a b) (hb : b' = b + 1) (h1 : v1 = X (8 * a + o)) (h2 : v2 = X (8 * o + b)) (h3 : v3 = X (8 * a + b)) (hn : n = v1 + v2) (h : ¬ n.toInt < v3.toInt) : X = fB W o a b' := by
  subst hb
  unfold fB
  rw [← q]
  funext k
  unfold fS
  rw [← h1, ← h2, ← h3, ← hn, if_neg (fun z => h z.2)]
theorem fb_y {H B : mzH} {W : Nat → Int32} {o a b b' : Nat} {v1 v2 v3 n j : Int32} (q : uX H = fB W o a b) (hb : b' = b + 1) (h1 : v1 = uX H (8 * a + o)) (h2 : v2 = uX H (8 * o + b)) (h3 : v3 = uX H (8 * a + b)) (hn : n = v1 + v2) (h : n.toInt < v3.toInt) (hI : gI SM H) (e : B = sA H 6 j.toInt.toNat n) (hj : j.toInt.toNat = 8 * a + b) (hk : 8 * a + b < 64) : uX B = fB W o a b' := by
  subst hb
  unfold fB
  rw [← q]
  funext k
  unfold fS
  rw [← h1, ← h2, ← h3, ← hn]
  show (if k < 64 then aZ B 6 k else 0) = _
  rw [e, aZ_if hI sm_6 (by omega) hj]
  if hk2 : k = 8 * a + b then
    rw [if_pos (show k < 64 by omega), if_pos hk2, if_pos (show k = 8 * a + b ∧ n.toInt < v3.toInt from ⟨hk2, h⟩)]
  else
    rw [if_neg hk2, if_neg (show ¬ (k = 8 * a + b ∧ n.toInt < v3.toInt) from fun z => hk2 z.1)]
    rfl
theorem fa_0 {X W : Nat → Int32} {o a : Nat} (q : X = W) (h : a = 0) : X = fA W o a := by subst h; exact q
theorem fa_st {X W : Nat → Int32} {o a a' b : Nat} (q : X = fB (fA W o a) o a b) (hb : b = 8) (ha : a' = a + 1) : X = fA W o a' := by
  subst ha hb
  exact q
theorem fo_0 {X W : Nat → Int32} {o : Nat} (q : X = W) (h : o = 0) : X = fO W o := by subst h; exact q
theorem fo_st {X W : Nat → Int32} {o o' a : Nat} (q : X = fA (fO W o) o a) (ha : a = 8) (ho : o' = o + 1) : X = fO W o' := by
  subst ho ha
  exact q
theorem fo_end {X W : Nat → Int32} {o o' : Nat} (q : X = fO W o) (h : o = o') : X = fO W o' := h ▸ q
set_option maxRecDepth 4000 in
set_option maxHeartbeats 4000000 in
/-- X1.way -/
theorem j_17 (a1 : Int32) (a2 : Int32) (H : mzH) (hI : gI SX H) (hJ : JX H) : gCall 17 [.ref 11, .int a1, .int a2] H (gRi (fun v H' => H = H' ∧ (((0 ≤ a1.toInt ∧ a1.toInt < (fZ H 11 7).toInt ∧ 0 ≤ a2.toInt ∧ a2.toInt < (fZ H 11 7).toInt) ∧ v = aZ H 13 (8 * a1.toInt.toNat + a2.toInt.toNat)) ∨ (¬ (0 ≤ a1.toInt ∧ a1.toInt < (fZ H 11 7).toInt ∧ 0 ≤ a2.toInt ∧ a2.toInt < (fZ H 11 7).toInt) ∧ v.toInt = -2)))) := by
  obtain ⟨k11_7, ek11_7⟩ : ∃ z, z = fZ H 11 7 := ⟨_, rfl⟩
  have ik11_7 : k11_7.toInt = (fZ H 11 7).toInt := by rw [← ek11_7]
  have bk11_7 : 0 ≤ k11_7.toInt ∧ k11_7.toInt ≤ 8 := by rw [ek11_7]; exact fZ_of hI sx_11 rfl
  refine gG_call [(0, .ref 11), (1, .int a1), (2, .int a2)] ⟨rfl, rfl, rfl, trivial⟩ ?_
  show gG 4 zB_17 (mzBlk zB_17 0) [(0, .ref 11), (1, .int a1), (2, .int a2)] [] H 0 0 _
  refine g_iload_n rfl ?_
  refine g_if_lt (fun c89 => ?_) (fun c89 => ?_)
  · refine g_iconst (by decide) (fun v90 kv90 => ?_)
    refine g_nop ?_
    refine g_istore_n (l' := [(0, .ref 11), (1, .int a1), (2, .int a2), (3, .int v90)]) rfl rfl ?_
    refine g_iload_n rfl ?_
    refine g_if_eq (fun c91 => ?_) (fun c91 => ?_)
    · refine g_bipush (by decide) (fun v92 kv92 => ?_)
      refine g_nop ?_
      exact g_iret ⟨_, rfl, rfl, (Or.inr ⟨by omega, by omega⟩)⟩
    · exfalso; omega
  · refine g_iload_n rfl ?_
    refine g_aload_n rfl ?_
    refine g_gfk hI sx_11 rfl ek11_7 ?_
    refine g_if2_ge (fun c93 => ?_) (fun c93 => ?_)
    · refine g_iconst (by decide) (fun v94 kv94 => ?_)
      refine g_nop ?_
      refine g_istore_n (l' := [(0, .ref 11), (1, .int a1), (2, .int a2), (3, .int v94)]) rfl rfl ?_
      refine g_iload_n rfl ?_
      refine g_if_eq (fun c95 => ?_) (fun c95 => ?_)
      · refine g_bipush (by decide) (fun v96 kv96 => ?_)
        refine g_nop ?_
        exact g_iret ⟨_, rfl, rfl, (Or.inr ⟨by omega, by omega⟩)⟩
      · exfalso; omega
    · refine g_iload_n rfl ?_
      refine g_if_lt (fun c97 => ?_) (fun c97 => ?_)
      · refine g_iconst (by decide) (fun v98 kv98 => ?_)
        refine g_nop ?_
        refine g_istore_n (l' := [(0, .ref 11), (1, .int a1), (2, .int a2), (3, .int v98)]) rfl rfl ?_
        refine g_iload_n rfl ?_
        refine g_if_eq (fun c99 => ?_) (fun c99 => ?_)
        · refine g_bipush (by decide) (fun v100 kv100 => ?_)
          refine g_nop ?_
          exact g_iret ⟨_, rfl, rfl, (Or.inr ⟨by omega, by omega⟩)⟩
        · exfalso; omega
      · refine g_iload_n rfl ?_
        refine g_aload_n rfl ?_
        refine g_gfk hI sx_11 rfl ek11_7 ?_
        refine g_if2_ge (fun c101 => ?_) (fun c101 => ?_)
        · refine g_iconst (by decide) (fun v102 kv102 => ?_)
          refine g_nop ?_
          refine g_istore_n (l' := [(0, .ref 11), (1, .int a1), (2, .int a2), (3, .int v102)]) rfl rfl ?_
          refine g_iload_n rfl ?_
          refine g_if_eq (fun c103 => ?_) (fun c103 => ?_)
          · refine g_bipush (by decide) (fun v104 kv104 => ?_)
            refine g_nop ?_
            exact g_iret ⟨_, rfl, rfl, (Or.inr ⟨by omega, by omega⟩)⟩
          · exfalso; omega
        · refine g_iconst (by decide) (fun v105 kv105 => ?_)
          refine g_goto ?_
          refine g_istore_n (l' := [(0, .ref 11), (1, .int a1), (2, .int a2), (3, .int v105)]) rfl rfl ?_
          refine g_iload_n rfl ?_
          refine g_if_eq (fun c106 => ?_) (fun c106 => ?_)
          · exfalso; omega
          · refine g_aload_n rfl ?_
            refine g_gfr hI sx_11 rfl ?_
            refine g_iload_n rfl ?_
            refine g_bipush (by decide) (fun v107 kv107 => ?_)
            refine g_imulk (n := 8) kv107 (by omega) (fun v108 ev108 => ?_)
            refine g_iload_n rfl ?_
            refine g_iadd (by omega) (fun v109 ev109 => ?_)
            refine g_iaload hI sx_13 rfl (by omega) (fun v110 ev110 lv110 uv110 => ?_)
            refine g_goto ?_
            exact g_iret ⟨_, rfl, rfl, (Or.inl ⟨by omega, by rw [show (8 * a1.toInt.toNat + a2.toInt.toNat) = v109.toInt.toNat by omega]; exact ev110⟩)⟩
set_option maxRecDepth 4000 in
set_option maxHeartbeats 4000000 in
/-- X1.hasPlace -/
theorem j_11 (a1 : Int32) (H : mzH) (hI : gI SX H) (hJ : JX H) : gCall 11 [.ref 11, .int a1] H (gRi (fun v H' => H = H' ∧ (0 ≤ v.toInt ∧ v.toInt ≤ 1) ∧ (v.toInt = 0 ∨ (0 ≤ a1.toInt ∧ a1.toInt ≤ 7)) ∧ ((v.toInt = 1 ∧ 0 ≤ a1.toInt ∧ a1.toInt < (fZ H 11 7).toInt) ∨ (v.toInt = 0 ∧ ¬ (0 ≤ a1.toInt ∧ a1.toInt < (fZ H 11 7).toInt))))) := by
  obtain ⟨k11_7, ek11_7⟩ : ∃ z, z = fZ H 11 7 := ⟨_, rfl⟩
  have ik11_7 : k11_7.toInt = (fZ H 11 7).toInt := by rw [← ek11_7]
  have bk11_7 : 0 ≤ k11_7.toInt ∧ k11_7.toInt ≤ 8 := by rw [ek11_7]; exact fZ_of hI sx_11 rfl
  refine gG_call [(0, .ref 11), (1, .int a1)] ⟨rfl, rfl, trivial⟩ ?_
  show gG 2 zB_11 (mzBlk zB_11 0) [(0, .ref 11), (1, .int a1)] [] H 0 0 _
  refine g_iload_n rfl ?_
  refine g_if_lt (fun c21 => ?_) (fun c21 => ?_)
  · refine g_iconst (by decide) (fun v22 kv22 => ?_)
    refine g_nop ?_
    exact g_zret (by omega) ⟨_, rfl, rfl, (by omega), (by omega), (by omega)⟩
  · refine g_iload_n rfl ?_
    refine g_aload_n rfl ?_
    refine g_gfk hI sx_11 rfl ek11_7 ?_
    refine g_if2_ge (fun c23 => ?_) (fun c23 => ?_)
    · refine g_iconst (by decide) (fun v24 kv24 => ?_)
      refine g_nop ?_
      exact g_zret (by omega) ⟨_, rfl, rfl, (by omega), (by omega), (by omega)⟩
    · refine g_iconst (by decide) (fun v25 kv25 => ?_)
      refine g_goto ?_
      exact g_zret (by omega) ⟨_, rfl, rfl, (by omega), (by omega), (by omega)⟩
set_option maxRecDepth 4000 in
set_option maxHeartbeats 4000000 in
/-- X1.shorten -/
theorem j_18 (a1 : Int32) (a2 : Int32) (a3 : Int32) (H : mzH) (hI : gI SX H) (hJ : JX H) (hp0 : (0 ≤ a1.toInt ∧ a1.toInt < (fZ H 11 7).toInt ∧ 0 ≤ a2.toInt ∧ a2.toInt < (fZ H 11 7).toInt)) : gCall 18 [.ref 11, .int a1, .int a2, .int a3] H (gRv (fun H' => gI SX H' ∧ JX H' ∧ fZ H' 1 1 = fZ H 1 1 ∧ fZ H' 19 7 = fZ H 19 7 ∧ fZ H' 11 7 = fZ H 11 7 ∧ kpN 13 13 H H' ∧ vW H' = jSh (vW H) (8 * a1.toInt.toNat + a2.toInt.toNat) a3)) := by
  obtain ⟨k1_1, ek1_1⟩ : ∃ z, z = fZ H 1 1 := ⟨_, rfl⟩
  have ik1_1 : k1_1.toInt = (fZ H 1 1).toInt := by rw [← ek1_1]
  have bk1_1 : 0 ≤ k1_1.toInt ∧ k1_1.toInt ≤ 900 := by rw [ek1_1]; exact fZ_of hI sx_1 rfl
  obtain ⟨k19_7, ek19_7⟩ : ∃ z, z = fZ H 19 7 := ⟨_, rfl⟩
  have ik19_7 : k19_7.toInt = (fZ H 19 7).toInt := by rw [← ek19_7]
  obtain ⟨k11_7, ek11_7⟩ : ∃ z, z = fZ H 11 7 := ⟨_, rfl⟩
  have ik11_7 : k11_7.toInt = (fZ H 11 7).toInt := by rw [← ek11_7]
  have bk11_7 : 0 ≤ k11_7.toInt ∧ k11_7.toInt ≤ 8 := by rw [ek11_7]; exact fZ_of hI sx_11 rfl
  have mkfr : kpN 13 13 H H := kpN_r
  refine gG_call [(0, .ref 11), (1, .int a1), (2, .int a2), (3, .int a3)] ⟨rfl, rfl, rfl, rfl, trivial⟩ ?_
  show gG 5 zB_18 (mzBlk zB_18 0) [(0, .ref 11), (1, .int a1), (2, .int a2), (3, .int a3)] [] H 0 0 _
  refine g_aload_n rfl ?_
  refine g_iload_n rfl ?_
  refine g_iload_n rfl ?_
  refine g_invvi hI sx_11 rfl rfl rfl rfl (j_17 a1 a2 H hI hJ) (fun v143 H141 r142 => ?_)
  obtain ⟨rfl, p144⟩ := r142
  have wv := (p144.resolve_right (by omega)).2
  refine g_istore (l' := [(0, .ref 11), (1, .int a1), (2, .int a2), (3, .int a3), (4, .int v143)]) rfl rfl ?_
  refine g_aload_n rfl ?_
  refine g_iload_n rfl ?_
  refine g_invvi hI sx_11 rfl rfl rfl rfl (j_11 a1 H hI hJ) (fun v147 H145 r146 => ?_)
  obtain ⟨rfl, bv147, p148, p149⟩ := r146
  refine g_if_eq (fun c150 => ?_) (fun c150 => ?_)
  · exact g_ret ⟨rfl, hI, hJ, (ek1_1.symm.trans ek1_1), (ek19_7.symm.trans ek19_7), (ek11_7.symm.trans ek11_7), mkfr, (jsh_n (by rw [← wv]; omega))⟩
  · refine g_aload_n rfl ?_
    refine g_iload_n rfl ?_
    refine g_invvi hI sx_11 rfl rfl rfl rfl (j_11 a2 H hI hJ) (fun v153 H151 r152 => ?_)
    obtain ⟨rfl, bv153, p154, p155⟩ := r152
    refine g_if_eq (fun c156 => ?_) (fun c156 => ?_)
    · exact g_ret ⟨rfl, hI, hJ, (ek1_1.symm.trans ek1_1), (ek19_7.symm.trans ek19_7), (ek11_7.symm.trans ek11_7), mkfr, (jsh_n (by rw [← wv]; omega))⟩
    · refine g_iload rfl ?_
      refine g_bipush (by decide) (fun v157 kv157 => ?_)
      refine g_if2_eq (fun c158 => ?_) (fun c158 => ?_)
      · refine g_aload_n rfl ?_
        refine g_gfr hI sx_11 rfl ?_
        refine g_iload_n rfl ?_
        refine g_bipush (by decide) (fun v159 kv159 => ?_)
        refine g_imulk (n := 8) kv159 (by omega) (fun v160 ev160 => ?_)
        refine g_iload_n rfl ?_
        refine g_iadd (by omega) (fun v161 ev161 => ?_)
        refine g_iload_n rfl ?_
        refine g_iastore hI sx_13 (by omega) (gz_any _) (fun H162 eH162 hIH162 => ?_)
        have hJH162 : JX H162 := JX_sA (by omega) eH162 hJ
        have e163 : k1_1 = fZ H162 1 1 := by rw [eH162, fZ_sA]; exact ek1_1
        have e164 : k19_7 = fZ H162 19 7 := by rw [eH162, fZ_sA]; exact ek19_7
        have e165 : k11_7 = fZ H162 11 7 := by rw [eH162, fZ_sA]; exact ek11_7
        have m166 : kpN 13 13 H H162 := kpN_A mkfr eH162 (by omega)
        have ie165 : k11_7.toInt = (fZ H162 11 7).toInt := by rw [← e165]
        refine g_nop ?_
        exact g_ret ⟨rfl, hIH162, hJH162, (e163.symm.trans ek1_1), (e164.symm.trans ek19_7), (e165.symm.trans ek11_7), m166, (jsh_y hI eH162 (by omega) (by rw [← wv]; omega))⟩
      · refine g_iload_n rfl ?_
        refine g_iload rfl ?_
        refine g_if2_ge (fun c167 => ?_) (fun c167 => ?_)
        · exact g_ret ⟨rfl, hI, hJ, (ek1_1.symm.trans ek1_1), (ek19_7.symm.trans ek19_7), (ek11_7.symm.trans ek11_7), mkfr, (jsh_n (by rw [← wv]; omega))⟩
        · refine g_nop ?_
          refine g_aload_n rfl ?_
          refine g_gfr hI sx_11 rfl ?_
          refine g_iload_n rfl ?_
          refine g_bipush (by decide) (fun v168 kv168 => ?_)
          refine g_imulk (n := 8) kv168 (by omega) (fun v169 ev169 => ?_)
          refine g_iload_n rfl ?_
          refine g_iadd (by omega) (fun v170 ev170 => ?_)
          refine g_iload_n rfl ?_
          refine g_iastore hI sx_13 (by omega) (gz_any _) (fun H171 eH171 hIH171 => ?_)
          have hJH171 : JX H171 := JX_sA (by omega) eH171 hJ
          have e172 : k1_1 = fZ H171 1 1 := by rw [eH171, fZ_sA]; exact ek1_1
          have e173 : k19_7 = fZ H171 19 7 := by rw [eH171, fZ_sA]; exact ek19_7
          have e174 : k11_7 = fZ H171 11 7 := by rw [eH171, fZ_sA]; exact ek11_7
          have m175 : kpN 13 13 H H171 := kpN_A mkfr eH171 (by omega)
          have ie174 : k11_7.toInt = (fZ H171 11 7).toInt := by rw [← e174]
          refine g_nop ?_
          exact g_ret ⟨rfl, hIH171, hJH171, (e172.symm.trans ek1_1), (e173.symm.trans ek19_7), (e174.symm.trans ek11_7), m175, (jsh_y hI eH171 (by omega) (by rw [← wv]; omega))⟩
set_option maxRecDepth 4000 in
set_option maxHeartbeats 4000000 in
/-- X1.joinRoads -/
theorem j_19 (H : mzH) (hI : gI SX H) (hJ : JX H) : gCall 19 [.ref 11] H (gRv (fun H' => gI SX H' ∧ JX H' ∧ fZ H' 1 1 = fZ H 1 1 ∧ kpN 13 13 H H' ∧ vW H' = jO (vW H) ((fZ H 11 7).toInt.toNat) ((fZ H 11 7).toInt.toNat))) := by
  obtain ⟨k1_1, ek1_1⟩ : ∃ z, z = fZ H 1 1 := ⟨_, rfl⟩
  have ik1_1 : k1_1.toInt = (fZ H 1 1).toInt := by rw [← ek1_1]
  have bk1_1 : 0 ≤ k1_1.toInt ∧ k1_1.toInt ≤ 900 := by rw [ek1_1]; exact fZ_of hI sx_1 rfl
  obtain ⟨k11_7, ek11_7⟩ : ∃ z, z = fZ H 11 7 := ⟨_, rfl⟩
  have ik11_7 : k11_7.toInt = (fZ H 11 7).toInt := by rw [← ek11_7]
  have bk11_7 : 0 ≤ k11_7.toInt ∧ k11_7.toInt ≤ 8 := by rw [ek11_7]; exact fZ_of hI sx_11 rfl
  have mkfr : kpN 13 13 H H := kpN_r
  refine gG_call [(0, .ref 11)] ⟨rfl, trivial⟩ ?_
  show gG 4 zB_19 (mzBlk zB_19 0) [(0, .ref 11)] [] H 0 0 _
  refine g_iconst (by decide) (fun v397 kv397 => ?_)
  refine g_istore_n (l' := [(0, .ref 11), (1, .int v397)]) rfl rfl ?_
  refine g_nop ?_
  have L403 : ∀ (N : Nat) (v398 : Int32) (H399 : mzH), gI SX H399 → JX H399 → k1_1 = fZ H399 1 1 → k11_7 = fZ H399 11 7 → kpN 13 13 H H399 → (0 ≤ v398.toInt ∧ v398.toInt ≤ 8) → vW H399 = jO (vW H) ((fZ H 11 7).toInt.toNat) v398.toInt.toNat → v398.toInt ≤ (fZ H 11 7).toInt → (8 - v398.toInt).toNat < N → gG 4 zB_19 (mzBlk zB_19 1) [(0, .ref 11), (1, .int v398)] [] H399 0 0 (gRv (fun H' => gI SX H' ∧ JX H' ∧ fZ H' 1 1 = fZ H 1 1 ∧ kpN 13 13 H H' ∧ vW H' = jO (vW H) ((fZ H 11 7).toInt.toNat) ((fZ H 11 7).toInt.toNat))) := by
    intro N
    induction N with
    | zero => intro v398 H399 hIH399 hJH399 e400 e401 m402 bv398 q1 q4 hmL403; exact absurd hmL403 (Nat.not_lt_zero _)
    | succ N ihL403 =>
      intro v398 H399 hIH399 hJH399 e400 e401 m402 bv398 q1 q4 hmL403
      refine g_iload_n rfl ?_
      refine g_aload_n rfl ?_
      refine g_gfk hIH399 sx_11 rfl e401 ?_
      refine g_if2_ge (fun c404 => ?_) (fun c404 => ?_)
      · exact g_ret ⟨rfl, hIH399, hJH399, (e400.symm.trans ek1_1), m402, (jo_end q1 (by omega))⟩
      · refine g_iconst (by decide) (fun v405 kv405 => ?_)
        refine g_istore_n (l' := [(0, .ref 11), (1, .int v398), (2, .int v405)]) rfl rfl ?_
        refine g_nop ?_
        have L411 : ∀ (N : Nat) (v406 : Int32) (H407 : mzH), gI SX H407 → JX H407 → k1_1 = fZ H407 1 1 → k11_7 = fZ H407 11 7 → kpN 13 13 H H407 → (0 ≤ v406.toInt ∧ v406.toInt ≤ 8) → vW H407 = jA (jO (vW H) ((fZ H 11 7).toInt.toNat) v398.toInt.toNat) v398.toInt.toNat ((fZ H 11 7).toInt.toNat) v406.toInt.toNat → v406.toInt ≤ (fZ H 11 7).toInt → (8 - v406.toInt).toNat < N → gG 4 zB_19 (mzBlk zB_19 2) [(0, .ref 11), (1, .int v398), (2, .int v406)] [] H407 0 0 (gRv (fun H' => gI SX H' ∧ JX H' ∧ fZ H' 1 1 = fZ H 1 1 ∧ kpN 13 13 H H' ∧ vW H' = jO (vW H) ((fZ H 11 7).toInt.toNat) ((fZ H 11 7).toInt.toNat))) := by
          intro N
          induction N with
          | zero => intro v406 H407 hIH407 hJH407 e408 e409 m410 bv406 q2 q5 hmL411; exact absurd hmL411 (Nat.not_lt_zero _)
          | succ N ihL411 =>
            intro v406 H407 hIH407 hJH407 e408 e409 m410 bv406 q2 q5 hmL411
            refine g_iload_n rfl ?_
            refine g_aload_n rfl ?_
            refine g_gfk hIH407 sx_11 rfl e409 ?_
            refine g_if2_ge (fun c412 => ?_) (fun c412 => ?_)
            · refine g_iinc (l' := (fun v413 => [(0, .ref 11), (1, .int v413), (2, .int v406)])) rfl rfl (by decide) (by omega) (fun _ => rfl) (fun v413 ev413 => ?_)
              refine g_goto ?_
              refine gG_pick [0, 1] (l' := [(0, .ref 11), (1, .int v413)]) rfl ?_
              exact ihL403 v413 H407 hIH407 hJH407 e408 e409 m410 (by omega) (jo_st q2 (by omega) (by omega)) (by omega) (by omega)
            · refine g_iconst (by decide) (fun v414 kv414 => ?_)
              refine g_istore_n (l' := [(0, .ref 11), (1, .int v398), (2, .int v406), (3, .int v414)]) rfl rfl ?_
              refine g_nop ?_
              have L420 : ∀ (N : Nat) (v415 : Int32) (H416 : mzH), gI SX H416 → JX H416 → k1_1 = fZ H416 1 1 → k11_7 = fZ H416 11 7 → kpN 13 13 H H416 → (0 ≤ v415.toInt ∧ v415.toInt ≤ 8) → vW H416 = jB (jA (jO (vW H) ((fZ H 11 7).toInt.toNat) v398.toInt.toNat) v398.toInt.toNat ((fZ H 11 7).toInt.toNat) v406.toInt.toNat) v398.toInt.toNat v406.toInt.toNat v415.toInt.toNat → v415.toInt ≤ (fZ H 11 7).toInt → (8 - v415.toInt).toNat < N → gG 4 zB_19 (mzBlk zB_19 3) [(0, .ref 11), (1, .int v398), (2, .int v406), (3, .int v415)] [] H416 0 0 (gRv (fun H' => gI SX H' ∧ JX H' ∧ fZ H' 1 1 = fZ H 1 1 ∧ kpN 13 13 H H' ∧ vW H' = jO (vW H) ((fZ H 11 7).toInt.toNat) ((fZ H 11 7).toInt.toNat))) := by
                intro N
                induction N with
                | zero => intro v415 H416 hIH416 hJH416 e417 e418 m419 bv415 q3 q6 hmL420; exact absurd hmL420 (Nat.not_lt_zero _)
                | succ N ihL420 =>
                  intro v415 H416 hIH416 hJH416 e417 e418 m419 bv415 q3 q6 hmL420
                  refine g_iload_n rfl ?_
                  refine g_aload_n rfl ?_
                  refine g_gfk hIH416 sx_11 rfl e418 ?_
                  refine g_if2_ge (fun c421 => ?_) (fun c421 => ?_)
                  · refine g_iinc (l' := (fun v422 => [(0, .ref 11), (1, .int v398), (2, .int v422), (3, .int v415)])) rfl rfl (by decide) (by omega) (fun _ => rfl) (fun v422 ev422 => ?_)
                    refine g_goto ?_
                    refine gG_pick [0, 1, 2] (l' := [(0, .ref 11), (1, .int v398), (2, .int v422)]) rfl ?_
                    exact ihL411 v422 H416 hIH416 hJH416 e417 e418 m419 (by omega) (ja_st q3 (by omega) (by omega)) (by omega) (by omega)
                  · refine g_aload_n rfl ?_
                    refine g_iload_n rfl ?_
                    refine g_iload_n rfl ?_
                    refine g_invvi hIH416 sx_11 rfl rfl rfl rfl (j_17 v406 v398 H416 hIH416 hJH416) (fun v425 H423 r424 => ?_)
                    obtain ⟨rfl, p426⟩ := r424
                    have ipv425 : k11_7.toInt = (fZ H416 11 7).toInt := by rw [← e418]
                    have wv425 := (p426.resolve_right (by omega)).2
                    have wiv425 : v425.toInt = (vW H416 (8 * v406.toInt.toNat + v398.toInt.toNat)).toInt := by rw [wv425]; rfl
                    refine g_bipush (by decide) (fun v427 kv427 => ?_)
                    refine g_if2_eq (fun c428 => ?_) (fun c428 => ?_)
                    · refine g_iinc (l' := (fun v429 => [(0, .ref 11), (1, .int v398), (2, .int v406), (3, .int v429)])) rfl rfl (by decide) (by omega) (fun _ => rfl) (fun v429 ev429 => ?_)
                      refine g_goto ?_
                      exact ihL420 v429 H416 hIH416 hJH416 e417 e418 m419 (by omega) (jb_n q3 (by omega) (by omega)) (by omega) (by omega)
                    · refine g_aload_n rfl ?_
                      refine g_iload_n rfl ?_
                      refine g_iload_n rfl ?_
                      refine g_invvi hIH416 sx_11 rfl rfl rfl rfl (j_17 v398 v415 H416 hIH416 hJH416) (fun v432 H430 r431 => ?_)
                      obtain ⟨rfl, p433⟩ := r431
                      have ipv432 : k11_7.toInt = (fZ H416 11 7).toInt := by rw [← e418]
                      have wv432 := (p433.resolve_right (by omega)).2
                      have wiv432 : v432.toInt = (vW H416 (8 * v398.toInt.toNat + v415.toInt.toNat)).toInt := by rw [wv432]; rfl
                      refine g_bipush (by decide) (fun v434 kv434 => ?_)
                      refine g_if2_eq (fun c435 => ?_) (fun c435 => ?_)
                      · refine g_iinc (l' := (fun v436 => [(0, .ref 11), (1, .int v398), (2, .int v406), (3, .int v436)])) rfl rfl (by decide) (by omega) (fun _ => rfl) (fun v436 ev436 => ?_)
                        refine g_goto ?_
                        exact ihL420 v436 H416 hIH416 hJH416 e417 e418 m419 (by omega) (jb_n q3 (by omega) (by omega)) (by omega) (by omega)
                      · refine g_aload_n rfl ?_
                        refine g_iload_n rfl ?_
                        refine g_iload_n rfl ?_
                        refine g_aload_n rfl ?_
                        refine g_iload_n rfl ?_
                        refine g_iload_n rfl ?_
                        refine g_invvi hIH416 sx_11 rfl rfl rfl rfl (j_17 v406 v398 H416 hIH416 hJH416) (fun v439 H437 r438 => ?_)
                        obtain ⟨rfl, p440⟩ := r438
                        have ipv439 : k11_7.toInt = (fZ H416 11 7).toInt := by rw [← e418]
                        have wv439 := (p440.resolve_right (by omega)).2
                        have wiv439 : v439.toInt = (vW H416 (8 * v406.toInt.toNat + v398.toInt.toNat)).toInt := by rw [wv439]; rfl
                        refine g_aload_n rfl ?_
                        refine g_iload_n rfl ?_
                        refine g_iload_n rfl ?_
                        refine g_invvi hIH416 sx_11 rfl rfl rfl rfl (j_17 v398 v415 H416 hIH416 hJH416) (fun v443 H441 r442 => ?_)
                        obtain ⟨rfl, p444⟩ := r442
                        have ipv443 : k11_7.toInt = (fZ H416 11 7).toInt := by rw [← e418]
                        have wv443 := (p444.resolve_right (by omega)).2
                        have wiv443 : v443.toInt = (vW H416 (8 * v398.toInt.toNat + v415.toInt.toNat)).toInt := by rw [wv443]; rfl
                        refine g_iadd' (fun v445 ov445 => ?_)
                        refine g_invvv hIH416 sx_11 rfl rfl rfl rfl (j_18 v406 v415 v445 H416 hIH416 hJH416 (by omega)) (fun H446 r447 => ?_)
                        obtain ⟨hIH446, hJH446, w448, w449, w450, m451, p452⟩ := r447
                        have e453 : k1_1 = fZ H446 1 1 := e417.trans w448.symm
                        have e454 : k11_7 = fZ H446 11 7 := e418.trans w450.symm
                        have m455 : kpN 13 13 H H446 := kpN_t m419 m451
                        have ie454 : k11_7.toInt = (fZ H446 11 7).toInt := by rw [← e454]
                        refine g_nop ?_
                        refine g_iinc (l' := (fun v456 => [(0, .ref 11), (1, .int v398), (2, .int v406), (3, .int v456)])) rfl rfl (by decide) (by omega) (fun _ => rfl) (fun v456 ev456 => ?_)
                        refine g_goto ?_
                        exact ihL420 v456 H446 hIH446 hJH446 e453 e454 m455 (by omega) (jb_y q3 (by omega) (by omega) (by omega) p452 (by rw [ov445, wv439, wv443]; rfl)) (by omega) (by omega)
              exact L420 _ v414 H407 hIH407 hJH407 e408 e409 m410 (by omega) (jb_0 q2 (by omega)) (by omega) (Nat.lt_succ_self _)
        exact L411 _ v405 H399 hIH399 hJH399 e400 e401 m402 (by omega) (ja_0 q1 (by omega)) (by omega) (Nat.lt_succ_self _)
  exact L403 _ v397 H hI hJ ek1_1 ek11_7 mkfr (by omega) (jo_0 (by omega)) (by omega) (Nat.lt_succ_self _)
set_option maxRecDepth 4000 in
set_option maxHeartbeats 4000000 in
/-- M.laysWays -/
theorem j_178 (H : mzH) (hI : gI SM H) (hJ : JN H) : gCall 178 [.ref 0] H (gRv (fun H' => gI SM H' ∧ JN H' ∧ (∀ a f, fZ H' a f = fZ H a f) ∧ (∀ i, aZ H' 1 i = aZ H 1 i) ∧ (∀ i, aZ H' 2 i = aZ H 2 i) ∧ (∀ i, aZ H' 3 i = aZ H 3 i) ∧ (∀ i, aZ H' 4 i = aZ H 4 i) ∧ (∀ i, aZ H' 5 i = aZ H 5 i) ∧ uX H' = fO (uW H) 8)) := by
  have mkF : ∀ a f, fZ H a f = fZ H a f := fun _ _ => rfl
  have mk1 : ∀ i, aZ H 1 i = aZ H 1 i := fun _ => rfl
  have mk2 : ∀ i, aZ H 2 i = aZ H 2 i := fun _ => rfl
  have mk3 : ∀ i, aZ H 3 i = aZ H 3 i := fun _ => rfl
  have mk4 : ∀ i, aZ H 4 i = aZ H 4 i := fun _ => rfl
  have mk5 : ∀ i, aZ H 5 i = aZ H 5 i := fun _ => rfl
  refine gG_call [(0, .ref 0)] ⟨rfl, trivial⟩ ?_
  show gG 5 zB_178 (mzBlk zB_178 0) [(0, .ref 0)] [] H 0 0 _
  refine g_iconst (by decide) (fun v785 kv785 => ?_)
  refine g_istore_n (l' := [(0, .ref 0), (1, .int v785)]) rfl rfl ?_
  refine g_nop ?_
  have L794 : ∀ (N : Nat) (v786 : Int32) (H787 : mzH), gI SM H787 → JN H787 → (∀ a f, fZ H787 a f = fZ H a f) → (∀ i, aZ H787 1 i = aZ H 1 i) → (∀ i, aZ H787 2 i = aZ H 2 i) → (∀ i, aZ H787 3 i = aZ H 3 i) → (∀ i, aZ H787 4 i = aZ H 4 i) → (∀ i, aZ H787 5 i = aZ H 5 i) → (0 ≤ v786.toInt ∧ v786.toInt ≤ 64) → (∀ i, i < v786.toInt.toNat → aZ H787 6 i = aZ H 2 (5 + i)) → (64 - v786.toInt).toNat < N → gG 5 zB_178 (mzBlk zB_178 1) [(0, .ref 0), (1, .int v786)] [] H787 0 0 (gRv (fun H' => gI SM H' ∧ JN H' ∧ (∀ a f, fZ H' a f = fZ H a f) ∧ (∀ i, aZ H' 1 i = aZ H 1 i) ∧ (∀ i, aZ H' 2 i = aZ H 2 i) ∧ (∀ i, aZ H' 3 i = aZ H 3 i) ∧ (∀ i, aZ H' 4 i = aZ H 4 i) ∧ (∀ i, aZ H' 5 i = aZ H 5 i) ∧ uX H' = fO (uW H) 8)) := by
    intro N
    induction N with
    | zero => intro v786 H787 hIH787 hJH787 m788 m789 m790 m791 m792 m793 bv786 q0 hmL794; exact absurd hmL794 (Nat.not_lt_zero _)
    | succ N ihL794 =>
      intro v786 H787 hIH787 hJH787 m788 m789 m790 m791 m792 m793 bv786 q0 hmL794
      refine g_iload_n rfl ?_
      refine g_bipush (by decide) (fun v795 kv795 => ?_)
      refine g_if2_ge (fun c796 => ?_) (fun c796 => ?_)
      · refine g_iconst (by decide) (fun v797 kv797 => ?_)
        refine g_istore_n (l' := [(0, .ref 0), (1, .int v797)]) rfl rfl ?_
        refine g_nop ?_
        have L806 : ∀ (N : Nat) (v798 : Int32) (H799 : mzH), gI SM H799 → JN H799 → (∀ a f, fZ H799 a f = fZ H a f) → (∀ i, aZ H799 1 i = aZ H 1 i) → (∀ i, aZ H799 2 i = aZ H 2 i) → (∀ i, aZ H799 3 i = aZ H 3 i) → (∀ i, aZ H799 4 i = aZ H 4 i) → (∀ i, aZ H799 5 i = aZ H 5 i) → (0 ≤ v798.toInt ∧ v798.toInt ≤ 8) → uX H799 = fO (uW H) v798.toInt.toNat → (8 - v798.toInt).toNat < N → gG 5 zB_178 (mzBlk zB_178 3) [(0, .ref 0), (1, .int v798)] [] H799 0 0 (gRv (fun H' => gI SM H' ∧ JN H' ∧ (∀ a f, fZ H' a f = fZ H a f) ∧ (∀ i, aZ H' 1 i = aZ H 1 i) ∧ (∀ i, aZ H' 2 i = aZ H 2 i) ∧ (∀ i, aZ H' 3 i = aZ H 3 i) ∧ (∀ i, aZ H' 4 i = aZ H 4 i) ∧ (∀ i, aZ H' 5 i = aZ H 5 i) ∧ uX H' = fO (uW H) 8)) := by
          intro N
          induction N with
          | zero => intro v798 H799 hIH799 hJH799 m800 m801 m802 m803 m804 m805 bv798 q1 hmL806; exact absurd hmL806 (Nat.not_lt_zero _)
          | succ N ihL806 =>
            intro v798 H799 hIH799 hJH799 m800 m801 m802 m803 m804 m805 bv798 q1 hmL806
            refine g_iload_n rfl ?_
            refine g_bipush (by decide) (fun v807 kv807 => ?_)
            refine g_if2_ge (fun c808 => ?_) (fun c808 => ?_)
            · exact g_ret ⟨rfl, hIH799, hJH799, m800, m801, m802, m803, m804, m805, (fo_end q1 (by omega))⟩
            · refine g_iconst (by decide) (fun v809 kv809 => ?_)
              refine g_istore_n (l' := [(0, .ref 0), (1, .int v798), (2, .int v809)]) rfl rfl ?_
              refine g_nop ?_
              have L818 : ∀ (N : Nat) (v810 : Int32) (H811 : mzH), gI SM H811 → JN H811 → (∀ a f, fZ H811 a f = fZ H a f) → (∀ i, aZ H811 1 i = aZ H 1 i) → (∀ i, aZ H811 2 i = aZ H 2 i) → (∀ i, aZ H811 3 i = aZ H 3 i) → (∀ i, aZ H811 4 i = aZ H 4 i) → (∀ i, aZ H811 5 i = aZ H 5 i) → (0 ≤ v810.toInt ∧ v810.toInt ≤ 8) → uX H811 = fA (fO (uW H) v798.toInt.toNat) v798.toInt.toNat v810.toInt.toNat → (8 - v810.toInt).toNat < N → gG 5 zB_178 (mzBlk zB_178 4) [(0, .ref 0), (1, .int v798), (2, .int v810)] [] H811 0 0 (gRv (fun H' => gI SM H' ∧ JN H' ∧ (∀ a f, fZ H' a f = fZ H a f) ∧ (∀ i, aZ H' 1 i = aZ H 1 i) ∧ (∀ i, aZ H' 2 i = aZ H 2 i) ∧ (∀ i, aZ H' 3 i = aZ H 3 i) ∧ (∀ i, aZ H' 4 i = aZ H 4 i) ∧ (∀ i, aZ H' 5 i = aZ H 5 i) ∧ uX H' = fO (uW H) 8)) := by
                intro N
                induction N with
                | zero => intro v810 H811 hIH811 hJH811 m812 m813 m814 m815 m816 m817 bv810 q2 hmL818; exact absurd hmL818 (Nat.not_lt_zero _)
                | succ N ihL818 =>
                  intro v810 H811 hIH811 hJH811 m812 m813 m814 m815 m816 m817 bv810 q2 hmL818
                  refine g_iload_n rfl ?_
                  refine g_bipush (by decide) (fun v819 kv819 => ?_)
                  refine g_if2_ge (fun c820 => ?_) (fun c820 => ?_)
                  · refine g_iinc (l' := (fun v821 => [(0, .ref 0), (1, .int v821), (2, .int v810)])) rfl rfl (by decide) (by omega) (fun _ => rfl) (fun v821 ev821 => ?_)
                    refine g_goto ?_
                    refine gG_pick [0, 1] (l' := [(0, .ref 0), (1, .int v821)]) rfl ?_
                    exact ihL806 v821 H811 hIH811 hJH811 m812 m813 m814 m815 m816 m817 (by omega) (fo_st q2 (by omega) (by omega)) (by omega)
                  · refine g_iconst (by decide) (fun v822 kv822 => ?_)
                    refine g_istore_n (l' := [(0, .ref 0), (1, .int v798), (2, .int v810), (3, .int v822)]) rfl rfl ?_
                    refine g_nop ?_
                    have L831 : ∀ (N : Nat) (v823 : Int32) (H824 : mzH), gI SM H824 → JN H824 → (∀ a f, fZ H824 a f = fZ H a f) → (∀ i, aZ H824 1 i = aZ H 1 i) → (∀ i, aZ H824 2 i = aZ H 2 i) → (∀ i, aZ H824 3 i = aZ H 3 i) → (∀ i, aZ H824 4 i = aZ H 4 i) → (∀ i, aZ H824 5 i = aZ H 5 i) → (0 ≤ v823.toInt ∧ v823.toInt ≤ 8) → uX H824 = fB (fA (fO (uW H) v798.toInt.toNat) v798.toInt.toNat v810.toInt.toNat) v798.toInt.toNat v810.toInt.toNat v823.toInt.toNat → (8 - v823.toInt).toNat < N → gG 5 zB_178 (mzBlk zB_178 5) [(0, .ref 0), (1, .int v798), (2, .int v810), (3, .int v823)] [] H824 0 0 (gRv (fun H' => gI SM H' ∧ JN H' ∧ (∀ a f, fZ H' a f = fZ H a f) ∧ (∀ i, aZ H' 1 i = aZ H 1 i) ∧ (∀ i, aZ H' 2 i = aZ H 2 i) ∧ (∀ i, aZ H' 3 i = aZ H 3 i) ∧ (∀ i, aZ H' 4 i = aZ H 4 i) ∧ (∀ i, aZ H' 5 i = aZ H 5 i) ∧ uX H' = fO (uW H) 8)) := by
                      intro N
                      induction N with
                      | zero => intro v823 H824 hIH824 hJH824 m825 m826 m827 m828 m829 m830 bv823 q3 hmL831; exact absurd hmL831 (Nat.not_lt_zero _)
                      | succ N ihL831 =>
                        intro v823 H824 hIH824 hJH824 m825 m826 m827 m828 m829 m830 bv823 q3 hmL831
                        refine g_iload_n rfl ?_
                        refine g_bipush (by decide) (fun v832 kv832 => ?_)
                        refine g_if2_ge (fun c833 => ?_) (fun c833 => ?_)
                        · refine g_iinc (l' := (fun v834 => [(0, .ref 0), (1, .int v798), (2, .int v834), (3, .int v823)])) rfl rfl (by decide) (by omega) (fun _ => rfl) (fun v834 ev834 => ?_)
                          refine g_goto ?_
                          refine gG_pick [0, 1, 2] (l' := [(0, .ref 0), (1, .int v798), (2, .int v834)]) rfl ?_
                          exact ihL818 v834 H824 hIH824 hJH824 m825 m826 m827 m828 m829 m830 (by omega) (fa_st q3 (by omega) (by omega)) (by omega)
                        · refine g_aload_n rfl ?_
                          refine g_gfr hIH824 sm_0 rfl ?_
                          refine g_bipush (by decide) (fun v835 kv835 => ?_)
                          refine g_iload_n rfl ?_
                          refine g_imulk' (n := 8) kv835 (by omega) (fun v836 ev836 => ?_)
                          refine g_iload_n rfl ?_
                          refine g_iadd (by omega) (fun v837 ev837 => ?_)
                          refine g_iaload hIH824 sm_6 rfl (by omega) (fun v838 ev838 lv838 uv838 => ?_)
                          refine g_aload_n rfl ?_
                          refine g_gfr hIH824 sm_0 rfl ?_
                          refine g_bipush (by decide) (fun v839 kv839 => ?_)
                          refine g_iload_n rfl ?_
                          refine g_imulk' (n := 8) kv839 (by omega) (fun v840 ev840 => ?_)
                          refine g_iload_n rfl ?_
                          refine g_iadd (by omega) (fun v841 ev841 => ?_)
                          refine g_iaload hIH824 sm_6 rfl (by omega) (fun v842 ev842 lv842 uv842 => ?_)
                          refine g_iadd' (fun v843 ov843 => ?_)
                          refine g_istore (l' := [(0, .ref 0), (1, .int v798), (2, .int v810), (3, .int v823), (4, .int v843)]) rfl rfl ?_
                          refine g_iload rfl ?_
                          refine g_aload_n rfl ?_
                          refine g_gfr hIH824 sm_0 rfl ?_
                          refine g_bipush (by decide) (fun v844 kv844 => ?_)
                          refine g_iload_n rfl ?_
                          refine g_imulk' (n := 8) kv844 (by omega) (fun v845 ev845 => ?_)
                          refine g_iload_n rfl ?_
                          refine g_iadd (by omega) (fun v846 ev846 => ?_)
                          refine g_iaload hIH824 sm_6 rfl (by omega) (fun v847 ev847 lv847 uv847 => ?_)
                          refine g_if2_ge (fun c848 => ?_) (fun c848 => ?_)
                          · refine g_iinc (l' := (fun v849 => [(0, .ref 0), (1, .int v798), (2, .int v810), (3, .int v849), (4, .int v843)])) rfl rfl (by decide) (by omega) (fun _ => rfl) (fun v849 ev849 => ?_)
                            refine g_goto ?_
                            refine gG_pick [0, 1, 2, 3] (l' := [(0, .ref 0), (1, .int v798), (2, .int v810), (3, .int v849)]) rfl ?_
                            exact ihL831 v849 H824 hIH824 hJH824 m825 m826 m827 m828 m829 m830 (by omega) (fb_n q3 (by omega) (uv_mk ev838 (by omega)) (uv_mk ev842 (by omega)) (uv_mk ev847 (by omega)) ov843 (by omega)) (by omega)
                          · refine g_aload_n rfl ?_
                            refine g_gfr hIH824 sm_0 rfl ?_
                            refine g_bipush (by decide) (fun v850 kv850 => ?_)
                            refine g_iload_n rfl ?_
                            refine g_imulk' (n := 8) kv850 (by omega) (fun v851 ev851 => ?_)
                            refine g_iload_n rfl ?_
                            refine g_iadd (by omega) (fun v852 ev852 => ?_)
                            refine g_iload rfl ?_
                            refine g_iastore hIH824 sm_6 (by omega) (gz_any _) (fun H853 eH853 hIH853 => ?_)
                            have hJH853 : JN H853 := JN_sA (by decide) eH853 hJH824
                            have m854 : ∀ a f, fZ H853 a f = fZ H a f := fun a f => (by rw [eH853, fZ_sA] : fZ H853 a f = fZ H824 a f).trans (m825 a f)
                            have m855 : ∀ i, aZ H853 1 i = aZ H 1 i := fun i => (by rw [eH853, aZ_sA_nc (by omega)] : aZ H853 1 i = aZ H824 1 i).trans (m826 i)
                            have m856 : ∀ i, aZ H853 2 i = aZ H 2 i := fun i => (by rw [eH853, aZ_sA_nc (by omega)] : aZ H853 2 i = aZ H824 2 i).trans (m827 i)
                            have m857 : ∀ i, aZ H853 3 i = aZ H 3 i := fun i => (by rw [eH853, aZ_sA_nc (by omega)] : aZ H853 3 i = aZ H824 3 i).trans (m828 i)
                            have m858 : ∀ i, aZ H853 4 i = aZ H 4 i := fun i => (by rw [eH853, aZ_sA_nc (by omega)] : aZ H853 4 i = aZ H824 4 i).trans (m829 i)
                            have m859 : ∀ i, aZ H853 5 i = aZ H 5 i := fun i => (by rw [eH853, aZ_sA_nc (by omega)] : aZ H853 5 i = aZ H824 5 i).trans (m830 i)
                            refine g_nop ?_
                            refine g_iinc (l' := (fun v860 => [(0, .ref 0), (1, .int v798), (2, .int v810), (3, .int v860), (4, .int v843)])) rfl rfl (by decide) (by omega) (fun _ => rfl) (fun v860 ev860 => ?_)
                            refine g_goto ?_
                            refine gG_pick [0, 1, 2, 3] (l' := [(0, .ref 0), (1, .int v798), (2, .int v810), (3, .int v860)]) rfl ?_
                            exact ihL831 v860 H853 hIH853 hJH853 m854 m855 m856 m857 m858 m859 (by omega) (fb_y q3 (by omega) (uv_mk ev838 (by omega)) (uv_mk ev842 (by omega)) (uv_mk ev847 (by omega)) ov843 (by omega) hIH824 eH853 (by omega) (by omega)) (by omega)
                    exact L831 _ v822 H811 hIH811 hJH811 m812 m813 m814 m815 m816 m817 (by omega) (fb_0 q2 (by omega)) (Nat.lt_succ_self _)
              exact L818 _ v809 H799 hIH799 hJH799 m800 m801 m802 m803 m804 m805 (by omega) (fa_0 q1 (by omega)) (Nat.lt_succ_self _)
        exact L806 _ v797 H787 hIH787 hJH787 m788 m789 m790 m791 m792 m793 (by omega) (fo_0 (ux_cp q0 (by omega)) (by omega)) (Nat.lt_succ_self _)
      · refine g_aload_n rfl ?_
        refine g_gfr hIH787 sm_0 rfl ?_
        refine g_iload_n rfl ?_
        refine g_aload_n rfl ?_
        refine g_gfr hIH787 sm_0 rfl ?_
        refine g_iconst (by decide) (fun v861 kv861 => ?_)
        refine g_iload_n rfl ?_
        refine g_iadd (by omega) (fun v862 ev862 => ?_)
        refine g_iaload hIH787 sm_2 rfl (by omega) (fun v863 ev863 lv863 uv863 => ?_)
        refine g_iastore hIH787 sm_6 (by omega) (gz_any _) (fun H864 eH864 hIH864 => ?_)
        have hJH864 : JN H864 := JN_sA (by decide) eH864 hJH787
        have m865 : ∀ a f, fZ H864 a f = fZ H a f := fun a f => (by rw [eH864, fZ_sA] : fZ H864 a f = fZ H787 a f).trans (m788 a f)
        have m866 : ∀ i, aZ H864 1 i = aZ H 1 i := fun i => (by rw [eH864, aZ_sA_nc (by omega)] : aZ H864 1 i = aZ H787 1 i).trans (m789 i)
        have m867 : ∀ i, aZ H864 2 i = aZ H 2 i := fun i => (by rw [eH864, aZ_sA_nc (by omega)] : aZ H864 2 i = aZ H787 2 i).trans (m790 i)
        have m868 : ∀ i, aZ H864 3 i = aZ H 3 i := fun i => (by rw [eH864, aZ_sA_nc (by omega)] : aZ H864 3 i = aZ H787 3 i).trans (m791 i)
        have m869 : ∀ i, aZ H864 4 i = aZ H 4 i := fun i => (by rw [eH864, aZ_sA_nc (by omega)] : aZ H864 4 i = aZ H787 4 i).trans (m792 i)
        have m870 : ∀ i, aZ H864 5 i = aZ H 5 i := fun i => (by rw [eH864, aZ_sA_nc (by omega)] : aZ H864 5 i = aZ H787 5 i).trans (m793 i)
        refine g_iinc (l' := (fun v871 => [(0, .ref 0), (1, .int v871)])) rfl rfl (by decide) (by omega) (fun _ => rfl) (fun v871 ev871 => ?_)
        refine g_goto ?_
        exact ihL794 v871 H864 hIH864 hJH864 m865 m866 m867 m868 m869 m870 (by omega) (fun i hi => by rw [eH864]; if e : v786.toInt.toNat = i then (rw [← e, aZ_sA_eq hIH787 sm_6 (by omega), ev863, m790, show v862.toInt.toNat = 5 + v786.toInt.toNat by omega]) else (rw [aZ_sA_ne e]; exact q0 i (by omega))) (by omega)
  exact L794 _ v785 H hI hJ mkF mk1 mk2 mk3 mk4 mk5 (by omega) (fun i hi => absurd hi (by omega)) (Nat.lt_succ_self _)
