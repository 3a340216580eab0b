/-! BYTES -/
/-- the byte of a number, 24 - 8 k bits from below -/
def bt (v : Int32) (s : Nat) : Nat := (v.toBitVec.toNat >>> s) % 256
def byS (m : Nat) : Int := if m < 128 then (m : Int) else (m : Int) - 256
theorem bt_lt {v : Int32} {s : Nat} : bt v s < 256 := Nat.mod_lt _ (by decide)
theorem by_sg {m : Nat} (h : m < 256) : sgB (byS m) (m : Int) := by
  unfold byS sgB
  split <;> omega
theorem sr_24 {s : Int32} (h : s.toInt = 24 ∨ s.toInt = 16 ∨ s.toInt = 8 ∨ s.toInt = 0) : s = 24 ∨ s = 16 ∨ s = 8 ∨ s = 0 := by
  rcases h with h | h | h | h
  · exact Or.inl (Int32.toInt_inj.mp h)
  · exact Or.inr (Or.inl (Int32.toInt_inj.mp h))
  · exact Or.inr (Or.inr (Or.inl (Int32.toInt_inj.mp h)))
  · exact Or.inr (Or.inr (Or.inr (Int32.toInt_inj.mp h)))
theorem by_x {v w u s : Int32} (hs : s.toInt = 24 ∨ s.toInt = 16 ∨ s.toInt = 8 ∨ s.toInt = 0) (o1 : w = ((v.toUInt32 >>> (s.toUInt32 &&& Int32.toUInt32 31)).toInt32)) (o2 : u = w.toInt8.toInt32) : (vp_nar .byte u).toInt = byS (bt v s.toInt.toNat) := by
  have e0 : ∀ z : Int32, (vp_nar .byte z) = z.toInt8.toInt32 := fun z => rfl
  have e1 : w.toBitVec.toNat = v.toBitVec.toNat >>> s.toInt.toNat := by
    rw [o1]
    rcases sr_24 hs with rfl | rfl | rfl | rfl <;> rfl
  have e2 : u.toInt = w.toInt.bmod 256 := by
    rw [o2, Int8.toInt_toInt32, Int32.toInt_toInt8]
  have e3 : (vp_nar .byte u).toInt = u.toInt.bmod 256 := by rw [e0, Int8.toInt_toInt32, Int32.toInt_toInt8]
  have e4 : w.toInt = (w.toBitVec.toNat : Int).bmod (2 ^ 32) := BitVec.toInt_eq_toNat_bmod _
  rw [e3, e2, e4]
  unfold byS bt
  rw [← e1]
  generalize w.toBitVec.toNat = n
  have : ((n % 256 : Nat) : Int) = (n : Int) % 256 := by omega
  simp only [Int.bmod]
  split <;> split <;> split <;> split <;> omega
theorem by_m {v w u m s : Int32} (hs : s.toInt = 24 ∨ s.toInt = 16 ∨ s.toInt = 8 ∨ s.toInt = 0) (o1 : w = v >>> (s &&& 31)) (o2 : u = w &&& m) (hm : m.toInt = 255) : u.toInt = (bt v s.toInt.toNat : Int) := by
  have hm : m = 255 := Int32.toInt_inj.mp hm
  subst hm
  have e1 : w.toBitVec = v.toBitVec.sshiftRight s.toInt.toNat := by
    rw [o1]
    rcases sr_24 hs with rfl | rfl | rfl | rfl <;> rfl
  have e2 : u.toBitVec = (v.toBitVec >>> s.toInt.toNat) &&& 255#32 := by
    rw [o2]
    show w.toBitVec &&& 255#32 = _
    rw [e1]
    apply BitVec.eq_of_getLsbD_eq
    intro i hi
    rw [BitVec.getLsbD_and, BitVec.getLsbD_and, BitVec.getLsbD_sshiftRight, BitVec.getLsbD_ushiftRight]
    if h : i < 8 then
      have : s.toInt.toNat + i < 32 := by omega
      rw [show decide (32 ≤ i) = false from decide_eq_false (by first | with_reducible assumption | omega), if_pos this, Bool.not_false, Bool.true_and]
    else
      have : (255#32).getLsbD i = false := by
        have : ∀ j : Fin 32, 8 ≤ j.val → (255#32).getLsbD j.val = false := by decide
        exact this ⟨i, hi⟩ (by show 8 ≤ i; omega)
      rw [this, Bool.and_false, Bool.and_false]
  have e3 : u.toBitVec.toNat = bt v s.toInt.toNat := by
    rw [e2, BitVec.toNat_and, BitVec.toNat_ushiftRight]
    exact Nat.and_two_pow_sub_one_eq_mod (n := 8) _
  have e4 : u.toInt = u.toBitVec.toInt := rfl
  have := bt_lt (v := v) (s := s.toInt.toNat)
  rw [e4, BitVec.toInt_eq_toNat_cond, e3]
  split <;> omega
theorem rem_4 {a b v : Int32} (o : v = a - a / b * b) (hb : b.toInt = 4) (ha : 0 ≤ a.toInt ∧ a.toInt ≤ 19) : v.toInt = a.toInt % 4 := by
  have hb : b = 4 := Int32.toInt_inj.mp hb
  subst hb
  have key : ∀ n : Fin 20, ((Int32.ofNat n.val) - (Int32.ofNat n.val) / 4 * 4).toInt = ((n.val % 4 : Nat) : Int) ∧ (Int32.ofNat n.val).toInt = (n.val : Int) := by decide
  have h := key ⟨a.toInt.toNat, by omega⟩
  have e : a = Int32.ofNat a.toInt.toNat := Int32.toInt_inj.mp (by rw [h.2]; show a.toInt = ((a.toInt.toNat : Nat) : Int); omega)
  rw [o]
  have h1 := h.1
  rw [← e] at h1
  rw [h1]
  show ((a.toInt.toNat % 4 : Nat) : Int) = a.toInt % 4
  omega
def fdV (a b c d e : Int32) (j : Nat) : Int32 := if j = 0 then a else if j = 1 then b else if j = 2 then c else if j = 3 then d else e
theorem fd_0 {a b c d e : Int32} {j : Nat} (h : j = 0) : fdV a b c d e j = a := by subst h; rfl
theorem fd_1 {a b c d e : Int32} {j : Nat} (h : j = 1) : fdV a b c d e j = b := by subst h; rfl
theorem fd_2 {a b c d e : Int32} {j : Nat} (h : j = 2) : fdV a b c d e j = c := by subst h; rfl
theorem fd_3 {a b c d e : Int32} {j : Nat} (h : j = 3) : fdV a b c d e j = d := by subst h; rfl
theorem fd_4 {a b c d e : Int32} {j : Nat} (h : j = 4) : fdV a b c d e j = e := by subst h; rfl
def apB (H B : mzH) (v : Int32) : Prop := (fZ B 1 1).toInt = (fZ H 1 1).toInt + 4 ∧ (∀ i : Nat, i < 4 → (aZ B 2 ((fZ H 1 1).toInt.toNat + i)).toInt = byS (bt v (24 - 8 * i))) ∧ (∀ q : Nat, (q : Int) < (fZ H 1 1).toInt → aZ B 2 q = aZ H 2 q)
def fdB (H B : mzH) (a b c d e : Int32) : Prop := (∀ i : Nat, i < 20 → (aZ B 2 ((fZ H 1 1).toInt.toNat + i)).toInt = byS (bt (fdV a b c d e (i / 4)) (24 - 8 * (i % 4)))) ∧ (∀ q : Nat, (q : Int) < (fZ H 1 1).toInt → aZ B 2 q = aZ H 2 q)
def fdX (H B : mzH) (a b c d e : Int32) : Prop := (880 < (fZ H 1 1).toInt ∧ B = H) ∨ ((fZ H 1 1).toInt ≤ 880 ∧ fdB H B a b c d e ∧ kpN 1 2 H B)
theorem fd_mk {H H1 H2 H3 H4 H5 : mzH} {a b c d e : Int32} (hz : 0 ≤ (fZ H 1 1).toInt) (h1 : apB H H1 a) (h2 : apB H1 H2 b) (h3 : apB H2 H3 c) (h4 : apB H3 H4 d) (h5 : apB H4 H5 e) : fdB H H5 a b c d e := by
  obtain ⟨z1, b1, o1⟩ := h1
  obtain ⟨z2, b2, o2⟩ := h2
  obtain ⟨z3, b3, o3⟩ := h3
  obtain ⟨z4, b4, o4⟩ := h4
  obtain ⟨z5, b5, o5⟩ := h5
  refine ⟨fun i hi => ?_, fun q hq => by rw [o5 q (by first | with_reducible assumption | omega), o4 q (by first | with_reducible assumption | omega), o3 q (by first | with_reducible assumption | omega), o2 q (by first | with_reducible assumption | omega), o1 q hq]⟩
  rcases (show i / 4 = 0 ∨ i / 4 = 1 ∨ i / 4 = 2 ∨ i / 4 = 3 ∨ i / 4 = 4 by omega) with h | h | h | h | h
  · rw [fd_0 h, o5 _ (by first | with_reducible assumption | omega), o4 _ (by first | with_reducible assumption | omega), o3 _ (by first | with_reducible assumption | omega), o2 _ (by first | with_reducible assumption | omega), ← b1 (i % 4) (by first | with_reducible assumption | omega), show (fZ H 1 1).toInt.toNat + i = (fZ H 1 1).toInt.toNat + i % 4 by omega]
  · rw [fd_1 h, o5 _ (by first | with_reducible assumption | omega), o4 _ (by first | with_reducible assumption | omega), o3 _ (by first | with_reducible assumption | omega), ← b2 (i % 4) (by first | with_reducible assumption | omega), show (fZ H 1 1).toInt.toNat + i = (fZ H1 1 1).toInt.toNat + i % 4 by omega]
  · rw [fd_2 h, o5 _ (by first | with_reducible assumption | omega), o4 _ (by first | with_reducible assumption | omega), ← b3 (i % 4) (by first | with_reducible assumption | omega), show (fZ H 1 1).toInt.toNat + i = (fZ H2 1 1).toInt.toNat + i % 4 by omega]
  · rw [fd_3 h, o5 _ (by first | with_reducible assumption | omega), ← b4 (i % 4) (by first | with_reducible assumption | omega), show (fZ H 1 1).toInt.toNat + i = (fZ H3 1 1).toInt.toNat + i % 4 by omega]
  · rw [fd_4 h, ← b5 (i % 4) (by first | with_reducible assumption | omega), show (fZ H 1 1).toInt.toNat + i = (fZ H4 1 1).toInt.toNat + i % 4 by omega]
def fdM (H B : mzH) (a b c d e : Int32) : Prop := (880 < (fZ H 0 2).toInt ∧ ∀ i, aZ B 1 i = aZ H 1 i) ∨ ((fZ H 0 2).toInt ≤ 880 ∧ (∀ i : Nat, i < 20 → (aZ B 1 ((fZ H 0 2).toInt.toNat + i)).toInt = (bt (fdV a b c d e (i / 4)) (24 - 8 * (i % 4)) : Int)) ∧ (∀ q : Nat, (q : Int) < (fZ H 0 2).toInt → aZ B 1 q = aZ H 1 q))
/-- the world, the names and the ways are as they were; so are lastFault, lastPlace, hadFits -/
def kpR (H B : mzH) : Prop := (∀ c, (c = 2 ∨ c = 5 ∨ c = 6) → ∀ i, aZ B c i = aZ H c i) ∧ (∀ f, (f = 15 ∨ f = 16 ∨ f = 18) → fZ B 0 f = fZ H 0 f)
theorem kpR_r {H : mzH} : kpR H H := ⟨fun _ _ _ => rfl, fun _ _ => rfl⟩
theorem kpR_t {H B B1 : mzH} (h : kpR H B) (g : kpR B B1) : kpR H B1 := ⟨fun c hc i => (g.1 c hc i).trans (h.1 c hc i), fun f hf => (g.2 f hf).trans (h.2 f hf)⟩
theorem kpR_F {H B B1 : mzH} {a f : Nat} {v : Int32} (m : kpR H B) (e : B1 = sF B a f v) (h : a ≠ 0 ∨ (f ≠ 15 ∧ f ≠ 16 ∧ f ≠ 18)) : kpR H B1 := kpR_t m ⟨fun c hc i => by rw [e, aZ_sF], fun g hg => by
  if q : a = 0 then
    subst q
    rw [e, fZ_sF_ne (by first | with_reducible assumption | omega)]
  else rw [e, fZ_sF_nc q]⟩
theorem kpR_A {H B B1 : mzH} {a f : Nat} {v : Int32} (m : kpR H B) (e : B1 = sA B a f v) (h : ¬ (a = 2 ∨ a = 5 ∨ a = 6)) : kpR H B1 := kpR_t m ⟨fun c hc i => by rw [e, aZ_sA_nc (by first | with_reducible assumption | omega)], fun g _ => by rw [e, fZ_sA]⟩
set_option maxRecDepth 4000 in
set_option maxHeartbeats 4000000 in
/-- X6.append -/
theorem e_71 (a1 : Int32) (H : mzH) (hI : gI SX H) (hJ : JX H) (hp0 : (fZ H 1 1).toInt + 4 ≤ 900) : gCall 71 [.ref 1, .int a1] H (gRv (fun H' => gI SX H' ∧ JX H' ∧ kpN 1 2 H H' ∧ (fZ H' 1 1).toInt = (fZ H 1 1).toInt + 4 ∧ (∀ i : Nat, i < 4 → (aZ H' 2 ((fZ H 1 1).toInt.toNat + i)).toInt = byS (bt a1 (24 - 8 * i))) ∧ (∀ q : Nat, (q : Int) < (fZ H 1 1).toInt → aZ H' 2 q = aZ H 2 q))) := by
  obtain ⟨k1_1, ek1_1⟩ : ∃ z, z = fZ H 1 1 := ⟨_, rfl⟩
  have ik1_1 : k1_1.toInt = (fZ H 1 1).toInt := by rw [← ek1_1]
  have bk1_1 : 0 ≤ k1_1.toInt ∧ k1_1.toInt ≤ 900 := by rw [ek1_1]; exact fZ_of hI sx_1 rfl
  have mkfr : kpN 1 2 H H := kpN_r
  refine gG_call [(0, .ref 1), (1, .int a1)] ⟨rfl, rfl, trivial⟩ ?_
  show gG 3 zB_71 (mzBlk zB_71 0) [(0, .ref 1), (1, .int a1)] [] H 0 0 _
  refine g_bipush (by decide) (fun v141 kv141 => ?_)
  refine g_istore_n (l' := [(0, .ref 1), (1, .int a1), (2, .int v141)]) rfl rfl ?_
  refine g_nop ?_
  have L145 : ∀ (N : Nat) (v142 : Int32) (H143 : mzH), gI SX H143 → JX H143 → kpN 1 2 H H143 → (-8 ≤ v142.toInt ∧ v142.toInt ≤ 24) → 8 * (fZ H143 1 1).toInt + v142.toInt = 8 * (fZ H 1 1).toInt + 24 → (∀ i : Nat, (i : Int) < (fZ H143 1 1).toInt - (fZ H 1 1).toInt → (aZ H143 2 ((fZ H 1 1).toInt.toNat + i)).toInt = byS (bt a1 (24 - 8 * i))) → (∀ q : Nat, (q : Int) < (fZ H 1 1).toInt → aZ H143 2 q = aZ H 2 q) → (v142.toInt - (-8)).toNat < N → gG 3 zB_71 (mzBlk zB_71 1) [(0, .ref 1), (1, .int a1), (2, .int v142)] [] H143 0 0 (gRv (fun H' => gI SX H' ∧ JX H' ∧ kpN 1 2 H H' ∧ (fZ H' 1 1).toInt = (fZ H 1 1).toInt + 4 ∧ (∀ i : Nat, i < 4 → (aZ H' 2 ((fZ H 1 1).toInt.toNat + i)).toInt = byS (bt a1 (24 - 8 * i))) ∧ (∀ q : Nat, (q : Int) < (fZ H 1 1).toInt → aZ H' 2 q = aZ H 2 q))) := by
    intro N
    induction N with
    | zero => intro v142 H143 hIH143 hJH143 m144 bv142 q1 q2 q3 hmL145; exact absurd hmL145 (Nat.not_lt_zero _)
    | succ N ihL145 =>
      intro v142 H143 hIH143 hJH143 m144 bv142 q1 q2 q3 hmL145
      have z0 := fZ_of hI sx_1 (f := 1) rfl
      refine g_iload_n rfl ?_
      refine g_if_lt (fun c146 => ?_) (fun c146 => ?_)
      · exact g_ret ⟨rfl, hIH143, hJH143, m144, (by first | with_reducible assumption | omega), (fun i hi => q2 i (by first | with_reducible assumption | omega)), q3⟩
      · refine g_aload_n rfl ?_
        refine g_gfi hIH143 sx_1 rfl (fun v147 ev147 lv147 uv147 => ?_)
        have iev147 : v147.toInt = (fZ H143 1 1).toInt := by rw [← ev147]
        refine g_sipush (by decide) (fun v148 kv148 => ?_)
        refine g_if2_ge (fun c149 => ?_) (fun c149 => ?_)
        · exact g_ret ⟨rfl, hIH143, hJH143, m144, (by first | with_reducible assumption | omega), (fun i hi => q2 i (by first | with_reducible assumption | omega)), q3⟩
        · refine g_aload_n rfl ?_
          refine g_gfr hIH143 sx_1 rfl ?_
          refine g_aload_n rfl ?_
          refine g_gfk hIH143 sx_1 rfl ev147 ?_
          refine g_iload_n rfl ?_
          refine g_iload_n rfl ?_
          refine g_iushr' (fun v150 ov150 => ?_)
          refine g_i2b (fun v151 ov151 => ?_)
          refine g_yastore hIH143 sx_2 (by first | with_reducible assumption | omega) (fun H152 eH152 hIH152 => ?_)
          have hJH152 : JX H152 := JX_sA (by first | with_reducible assumption | omega) eH152 hJH143
          have e153 : v147 = fZ H152 1 1 := by rw [eH152, fZ_sA]; exact ev147
          have m154 : kpN 1 2 H H152 := kpN_A m144 eH152 (by first | with_reducible assumption | omega)
          have ie153 : v147.toInt = (fZ H152 1 1).toInt := by rw [← e153]
          refine g_aload_n rfl ?_
          refine g_dup rfl ?_
          refine g_gfk hIH152 sx_1 rfl e153 ?_
          refine g_iconst (by decide) (fun v155 kv155 => ?_)
          refine g_iadd (by first | with_reducible assumption | omega) (fun v156 ev156 => ?_)
          refine g_pfi hIH152 sx_1 rfl (by first | with_reducible assumption | omega) (fun H157 eH157 hIH157 => ?_)
          have hJH157 : JX H157 := JX_sF eH157 hJH152
          have e158 : v156 = fZ H157 1 1 := by rw [eH157, fZ_sF_eq hIH152 sx_1 rfl]
          have m159 : kpN 1 2 H H157 := kpN_F m154 eH157 (by first | with_reducible assumption | omega)
          have ie158 : v156.toInt = (fZ H157 1 1).toInt := by rw [← e158]
          refine g_iinc (l' := (fun v160 => [(0, .ref 1), (1, .int a1), (2, .int v160)])) rfl rfl (by decide) (by first | with_reducible assumption | omega) (fun _ => rfl) (fun v160 ev160 => ?_)
          refine g_goto ?_
          exact ihL145 v160 H157 hIH157 hJH157 m159 (by first | with_reducible assumption | omega) (by first | with_reducible assumption | omega) (fun i hi => by rw [eH157, aZ_sF, eH152]; if e : v147.toInt.toNat = (fZ H 1 1).toInt.toNat + i then (rw [← e, aZ_sA_eq hIH143 sx_2 (by first | with_reducible assumption | omega), show 24 - 8 * i = v142.toInt.toNat by omega]; exact by_x (by first | with_reducible assumption | omega) ov150 ov151) else (rw [aZ_sA_ne e]; exact q2 i (by first | with_reducible assumption | omega))) (fun q hq => by rw [eH157, aZ_sF, eH152, aZ_sA_ne (by first | with_reducible assumption | omega)]; exact q3 q hq) (by first | with_reducible assumption | omega)
  exact L145 _ v141 H hI hJ mkfr (by first | with_reducible assumption | omega) (by first | with_reducible assumption | omega) (fun i hi => absurd hi (by first | with_reducible assumption | omega)) (fun _ _ => rfl) (Nat.lt_succ_self _)
set_option maxRecDepth 4000 in
set_option maxHeartbeats 4000000 in
/-- X9.feed -/
theorem e_113 (a1 : Int32) (a2 : Int32) (a3 : Int32) (a4 : Int32) (a5 : Int32) (H : mzH) (hI : gI SX H) (hJ : JX H) : gCall 113 [.ref 0, .int a1, .int a2, .int a3, .int a4, .int a5] H (gRi (fun v H' => gI SX H' ∧ JX H' ∧ (((fZ H 1 1).toInt ≤ 880 ∧ v.toInt = (fZ H 1 1).toInt + 20 ∧ (fZ H' 1 1).toInt = (fZ H 1 1).toInt + 20) ∨ (880 < (fZ H 1 1).toInt ∧ v.toInt = -1 ∧ (fZ H' 1 1).toInt = (fZ H 1 1).toInt)) ∧ fdX H H' a1 a2 a3 a4 a5)) := by
  obtain ⟨k1_1, ek1_1⟩ : ∃ z, z = fZ H 1 1 := ⟨_, rfl⟩
  have ik1_1 : k1_1.toInt = (fZ H 1 1).toInt := by rw [← ek1_1]
  have bk1_1 : 0 ≤ k1_1.toInt ∧ k1_1.toInt ≤ 900 := by rw [ek1_1]; exact fZ_of hI sx_1 rfl
  have mkfr : kpN 1 2 H H := kpN_r
  refine gG_call [(0, .ref 0), (1, .int a1), (2, .int a2), (3, .int a3), (4, .int a4), (5, .int a5)] ⟨rfl, rfl, rfl, rfl, rfl, rfl, trivial⟩ ?_
  show gG 6 zB_113 (mzBlk zB_113 0) [(0, .ref 0), (1, .int a1), (2, .int a2), (3, .int a3), (4, .int a4), (5, .int a5)] [] H 0 0 _
  refine g_aload_n rfl ?_
  refine g_gfr hI sx_0 rfl ?_
  refine g_bipush (by decide) (fun v177 kv177 => ?_)
  refine g_invvi hI sx_1 rfl rfl rfl rfl (s_70 v177 (by first | with_reducible assumption | omega) H hI hJ) (fun v180 H178 r179 => ?_)
  obtain ⟨rfl, bv180, p181, p182⟩ := r179
  refine g_if_ne (fun c183 => ?_) (fun c183 => ?_)
  · refine g_aload_n rfl ?_
    refine g_gfr hI sx_0 rfl ?_
    refine g_iload_n rfl ?_
    refine g_invvv hI sx_1 rfl rfl rfl rfl (e_71 a1 H hI hJ (by first | with_reducible assumption | omega)) (fun H184 r185 => ?_)
    obtain ⟨hIH184, hJH184, m186, p187, p188, p189⟩ := r185
    have m190 : kpN 1 2 H H184 := kpN_t mkfr m186
    refine g_aload_n rfl ?_
    refine g_gfr hIH184 sx_0 rfl ?_
    refine g_iload_n rfl ?_
    refine g_invvv hIH184 sx_1 rfl rfl rfl rfl (e_71 a2 H184 hIH184 hJH184 (by first | with_reducible assumption | omega)) (fun H191 r192 => ?_)
    obtain ⟨hIH191, hJH191, m193, p194, p195, p196⟩ := r192
    have m197 : kpN 1 2 H H191 := kpN_t m190 m193
    refine g_aload_n rfl ?_
    refine g_gfr hIH191 sx_0 rfl ?_
    refine g_iload_n rfl ?_
    refine g_invvv hIH191 sx_1 rfl rfl rfl rfl (e_71 a3 H191 hIH191 hJH191 (by first | with_reducible assumption | omega)) (fun H198 r199 => ?_)
    obtain ⟨hIH198, hJH198, m200, p201, p202, p203⟩ := r199
    have m204 : kpN 1 2 H H198 := kpN_t m197 m200
    refine g_aload_n rfl ?_
    refine g_gfr hIH198 sx_0 rfl ?_
    refine g_iload rfl ?_
    refine g_invvv hIH198 sx_1 rfl rfl rfl rfl (e_71 a4 H198 hIH198 hJH198 (by first | with_reducible assumption | omega)) (fun H205 r206 => ?_)
    obtain ⟨hIH205, hJH205, m207, p208, p209, p210⟩ := r206
    have m211 : kpN 1 2 H H205 := kpN_t m204 m207
    refine g_aload_n rfl ?_
    refine g_gfr hIH205 sx_0 rfl ?_
    refine g_iload rfl ?_
    refine g_invvv hIH205 sx_1 rfl rfl rfl rfl (e_71 a5 H205 hIH205 hJH205 (by first | with_reducible assumption | omega)) (fun H212 r213 => ?_)
    obtain ⟨hIH212, hJH212, m214, p215, p216, p217⟩ := r213
    have m218 : kpN 1 2 H H212 := kpN_t m211 m214
    refine g_aload_n rfl ?_
    refine g_gfr hIH212 sx_0 rfl ?_
    refine g_gfi hIH212 sx_1 rfl (fun v219 ev219 lv219 uv219 => ?_)
    have iev219 : v219.toInt = (fZ H212 1 1).toInt := by rw [← ev219]
    exact g_iret ⟨_, rfl, hIH212, hJH212, (by first | with_reducible assumption | omega), (Or.inr ⟨by omega, fd_mk (fZ_of hI sx_1 (f := 1) rfl).1 ⟨p187, p188, p189⟩ ⟨p194, p195, p196⟩ ⟨p201, p202, p203⟩ ⟨p208, p209, p210⟩ ⟨p215, p216, p217⟩, m218⟩)⟩
  · refine g_iconst (by decide) (fun v220 kv220 => ?_)
    exact g_iret ⟨_, rfl, hI, hJ, (by first | with_reducible assumption | omega), (Or.inl ⟨by omega, rfl⟩)⟩
set_option maxRecDepth 4000 in
set_option maxHeartbeats 4000000 in
/-- M.feed -/
theorem e_155 (a1 : Int32) (a2 : Int32) (a3 : Int32) (a4 : Int32) (a5 : Int32) (H : mzH) (hI : gI SM H) (hJ : JN H) : gCall 155 [.ref 0, .int a1, .int a2, .int a3, .int a4, .int a5] H (gRi (fun v H' => gI SM H' ∧ JN H' ∧ kpR H H' ∧ (((fZ H 0 2).toInt ≤ 880 ∧ v.toInt = (fZ H 0 2).toInt + 20 ∧ (fZ H' 0 2).toInt = (fZ H 0 2).toInt + 20) ∨ (880 < (fZ H 0 2).toInt ∧ v.toInt = -1 ∧ (fZ H' 0 2).toInt = (fZ H 0 2).toInt)) ∧ fdM H H' a1 a2 a3 a4 a5)) := by
  obtain ⟨k0_2, ek0_2⟩ : ∃ z, z = fZ H 0 2 := ⟨_, rfl⟩
  have ik0_2 : k0_2.toInt = (fZ H 0 2).toInt := by rw [← ek0_2]
  have bk0_2 : 0 ≤ k0_2.toInt ∧ k0_2.toInt ≤ 900 := by rw [ek0_2]; exact fZ_of hI sm_0 rfl
  have mkfr : kpR H H := kpR_r
  refine gG_call [(0, .ref 0), (1, .int a1), (2, .int a2), (3, .int a3), (4, .int a4), (5, .int a5)] ⟨rfl, rfl, rfl, rfl, rfl, rfl, trivial⟩ ?_
  show gG 8 zB_155 (mzBlk zB_155 0) [(0, .ref 0), (1, .int a1), (2, .int a2), (3, .int a3), (4, .int a4), (5, .int a5)] [] H 0 0 _
  refine g_aload_n rfl ?_
  refine g_iconst (by decide) (fun v673 kv673 => ?_)
  refine g_pfi hI sm_0 rfl (gz_any _) (fun H674 eH674 hIH674 => ?_)
  have hJH674 : JN H674 := JN_sF eH674 hJ
  have e675 : k0_2 = fZ H674 0 2 := by rw [eH674, fZ_sF_ne (by decide)]; exact ek0_2
  have m676 : kpR H H674 := kpR_F mkfr eH674 (by first | with_reducible assumption | omega)
  have ie675 : k0_2.toInt = (fZ H674 0 2).toInt := by rw [← e675]
  refine g_aload_n rfl ?_
  refine g_gfk hIH674 sm_0 rfl e675 ?_
  refine g_sipush (by decide) (fun v677 kv677 => ?_)
  refine g_if2_le (fun c678 => ?_) (fun c678 => ?_)
  · have z0 := fZ_of hI sm_0 (f := 2) rfl
    refine g_iconst (by decide) (fun v679 kv679 => ?_)
    refine g_istore (l' := [(0, .ref 0), (1, .int a1), (2, .int a2), (3, .int a3), (4, .int a4), (5, .int a5), (6, .int v679)]) rfl rfl ?_
    refine g_nop ?_
    have L684 : ∀ (N : Nat) (v680 : Int32) (H681 : mzH), gI SM H681 → JN H681 → k0_2 = fZ H681 0 2 → kpR H H681 → (0 ≤ v680.toInt ∧ v680.toInt ≤ 20) → (∀ i : Nat, (i : Int) < v680.toInt → (aZ H681 1 ((fZ H 0 2).toInt.toNat + i)).toInt = (bt (fdV a1 a2 a3 a4 a5 (i / 4)) (24 - 8 * (i % 4)) : Int)) → (∀ q : Nat, (q : Int) < (fZ H 0 2).toInt → aZ H681 1 q = aZ H 1 q) → (20 - v680.toInt).toNat < N → gG 8 zB_155 (mzBlk zB_155 2) [(0, .ref 0), (1, .int a1), (2, .int a2), (3, .int a3), (4, .int a4), (5, .int a5), (6, .int v680)] [] H681 0 0 (gRi (fun v H' => gI SM H' ∧ JN H' ∧ kpR H H' ∧ (((fZ H 0 2).toInt ≤ 880 ∧ v.toInt = (fZ H 0 2).toInt + 20 ∧ (fZ H' 0 2).toInt = (fZ H 0 2).toInt + 20) ∨ (880 < (fZ H 0 2).toInt ∧ v.toInt = -1 ∧ (fZ H' 0 2).toInt = (fZ H 0 2).toInt)) ∧ fdM H H' a1 a2 a3 a4 a5)) := by
      intro N
      induction N with
      | zero => intro v680 H681 hIH681 hJH681 e682 m683 bv680 q1 q2 hmL684; exact absurd hmL684 (Nat.not_lt_zero _)
      | succ N ihL684 =>
        intro v680 H681 hIH681 hJH681 e682 m683 bv680 q1 q2 hmL684
        refine g_iload rfl ?_
        refine g_bipush (by decide) (fun v685 kv685 => ?_)
        refine g_if2_ge (fun c686 => ?_) (fun c686 => ?_)
        · refine g_aload_n rfl ?_
          refine g_dup rfl ?_
          refine g_gfk hIH681 sm_0 rfl e682 ?_
          refine g_bipush (by decide) (fun v687 kv687 => ?_)
          refine g_iadd (by first | with_reducible assumption | omega) (fun v688 ev688 => ?_)
          refine g_pfi hIH681 sm_0 rfl (by first | with_reducible assumption | omega) (fun H689 eH689 hIH689 => ?_)
          have hJH689 : JN H689 := JN_sF eH689 hJH681
          have e690 : v688 = fZ H689 0 2 := by rw [eH689, fZ_sF_eq hIH681 sm_0 rfl]
          have m691 : kpR H H689 := kpR_F m683 eH689 (by first | with_reducible assumption | omega)
          have ie690 : v688.toInt = (fZ H689 0 2).toInt := by rw [← e690]
          refine g_aload_n rfl ?_
          refine g_gfk hIH689 sm_0 rfl e690 ?_
          exact g_iret ⟨_, rfl, hIH689, hJH689, m691, (by first | with_reducible assumption | omega), (Or.inr ⟨by omega, fun i hi => by rw [eH689, aZ_sF]; exact q1 i (by first | with_reducible assumption | omega), fun q hq => by rw [eH689, aZ_sF]; exact q2 q hq⟩)⟩
        · refine g_iload rfl ?_
          refine g_iconst (by decide) (fun v692 kv692 => ?_)
          refine g_if2_ge (fun c693 => ?_) (fun c693 => ?_)
          · refine g_iload rfl ?_
            refine g_bipush (by decide) (fun v694 kv694 => ?_)
            refine g_if2_ge (fun c695 => ?_) (fun c695 => ?_)
            · refine g_iload rfl ?_
              refine g_bipush (by decide) (fun v696 kv696 => ?_)
              refine g_if2_ge (fun c697 => ?_) (fun c697 => ?_)
              · refine g_iload rfl ?_
                refine g_bipush (by decide) (fun v698 kv698 => ?_)
                refine g_if2_ge (fun c699 => ?_) (fun c699 => ?_)
                · refine g_iload rfl ?_
                  refine g_nop ?_
                  refine g_istore (l' := [(0, .ref 0), (1, .int a1), (2, .int a2), (3, .int a3), (4, .int a4), (5, .int a5), (6, .int v680), (7, .int a5)]) rfl rfl ?_
                  refine g_aload_n rfl ?_
                  refine g_gfr hIH681 sm_0 rfl ?_
                  refine g_aload_n rfl ?_
                  refine g_gfk hIH681 sm_0 rfl e682 ?_
                  refine g_iload rfl ?_
                  refine g_iadd (by first | with_reducible assumption | omega) (fun v700 ev700 => ?_)
                  refine g_iload rfl ?_
                  refine g_bipush (by decide) (fun v701 kv701 => ?_)
                  refine g_bipush (by decide) (fun v702 kv702 => ?_)
                  refine g_iload rfl ?_
                  refine g_iconst (by decide) (fun v703 kv703 => ?_)
                  refine g_irem' (by first | with_reducible assumption | omega) (fun v704 ov704 => ?_)
                  have rv704 := rem_4 ov704 (by first | with_reducible assumption | omega) (by first | with_reducible assumption | omega)
                  have rrv704 : 0 ≤ v704.toInt ∧ v704.toInt ≤ 3 := by omega
                  refine g_imulk' (n := 8) kv702 (by first | with_reducible assumption | omega) (fun v705 ev705 => ?_)
                  refine g_isub (by first | with_reducible assumption | omega) (fun v706 ev706 => ?_)
                  refine g_ishr' (fun v707 ov707 => ?_)
                  refine g_sipush (by decide) (fun v708 kv708 => ?_)
                  refine g_iand (by first | with_reducible assumption | omega) (fun v709 ov709 lv709 uv709 => ?_)
                  refine g_iastore hIH681 sm_1 (by first | with_reducible assumption | omega) (by first | with_reducible assumption | omega) (fun H710 eH710 hIH710 => ?_)
                  have hJH710 : JN H710 := JN_sA (by decide) eH710 hJH681
                  have e711 : k0_2 = fZ H710 0 2 := by rw [eH710, fZ_sA]; exact e682
                  have m712 : kpR H H710 := kpR_A m683 eH710 (by first | with_reducible assumption | omega)
                  have ie711 : k0_2.toInt = (fZ H710 0 2).toInt := by rw [← e711]
                  refine g_iinc (l' := (fun v713 => [(0, .ref 0), (1, .int a1), (2, .int a2), (3, .int a3), (4, .int a4), (5, .int a5), (6, .int v713), (7, .int a5)])) rfl rfl (by decide) (by first | with_reducible assumption | omega) (fun _ => rfl) (fun v713 ev713 => ?_)
                  refine g_goto ?_
                  refine gG_pick [0, 1, 2, 3, 4, 5, 6] (l' := [(0, .ref 0), (1, .int a1), (2, .int a2), (3, .int a3), (4, .int a4), (5, .int a5), (6, .int v713)]) rfl ?_
                  exact ihL684 v713 H710 hIH710 hJH710 e711 m712 (by first | with_reducible assumption | omega) (fun i hi => by rw [eH710]; if e : v700.toInt.toNat = (fZ H 0 2).toInt.toNat + i then (rw [← e, aZ_sA_eq hIH681 sm_1 (by first | with_reducible assumption | omega), fd_4 (by first | with_reducible assumption | omega), show 24 - 8 * (i % 4) = v706.toInt.toNat by omega]; exact by_m (by first | with_reducible assumption | omega) ov707 ov709 kv708) else (rw [aZ_sA_ne e]; exact q1 i (by first | with_reducible assumption | omega))) (fun q hq => by rw [eH710, aZ_sA_ne (by first | with_reducible assumption | omega)]; exact q2 q hq) (by first | with_reducible assumption | omega)
                · refine g_iload rfl ?_
                  refine g_goto ?_
                  refine g_istore (l' := [(0, .ref 0), (1, .int a1), (2, .int a2), (3, .int a3), (4, .int a4), (5, .int a5), (6, .int v680), (7, .int a4)]) rfl rfl ?_
                  refine g_aload_n rfl ?_
                  refine g_gfr hIH681 sm_0 rfl ?_
                  refine g_aload_n rfl ?_
                  refine g_gfk hIH681 sm_0 rfl e682 ?_
                  refine g_iload rfl ?_
                  refine g_iadd (by first | with_reducible assumption | omega) (fun v714 ev714 => ?_)
                  refine g_iload rfl ?_
                  refine g_bipush (by decide) (fun v715 kv715 => ?_)
                  refine g_bipush (by decide) (fun v716 kv716 => ?_)
                  refine g_iload rfl ?_
                  refine g_iconst (by decide) (fun v717 kv717 => ?_)
                  refine g_irem' (by first | with_reducible assumption | omega) (fun v718 ov718 => ?_)
                  have rv718 := rem_4 ov718 (by first | with_reducible assumption | omega) (by first | with_reducible assumption | omega)
                  have rrv718 : 0 ≤ v718.toInt ∧ v718.toInt ≤ 3 := by omega
                  refine g_imulk' (n := 8) kv716 (by first | with_reducible assumption | omega) (fun v719 ev719 => ?_)
                  refine g_isub (by first | with_reducible assumption | omega) (fun v720 ev720 => ?_)
                  refine g_ishr' (fun v721 ov721 => ?_)
                  refine g_sipush (by decide) (fun v722 kv722 => ?_)
                  refine g_iand (by first | with_reducible assumption | omega) (fun v723 ov723 lv723 uv723 => ?_)
                  refine g_iastore hIH681 sm_1 (by first | with_reducible assumption | omega) (by first | with_reducible assumption | omega) (fun H724 eH724 hIH724 => ?_)
                  have hJH724 : JN H724 := JN_sA (by decide) eH724 hJH681
                  have e725 : k0_2 = fZ H724 0 2 := by rw [eH724, fZ_sA]; exact e682
                  have m726 : kpR H H724 := kpR_A m683 eH724 (by first | with_reducible assumption | omega)
                  have ie725 : k0_2.toInt = (fZ H724 0 2).toInt := by rw [← e725]
                  refine g_iinc (l' := (fun v727 => [(0, .ref 0), (1, .int a1), (2, .int a2), (3, .int a3), (4, .int a4), (5, .int a5), (6, .int v727), (7, .int a4)])) rfl rfl (by decide) (by first | with_reducible assumption | omega) (fun _ => rfl) (fun v727 ev727 => ?_)
                  refine g_goto ?_
                  refine gG_pick [0, 1, 2, 3, 4, 5, 6] (l' := [(0, .ref 0), (1, .int a1), (2, .int a2), (3, .int a3), (4, .int a4), (5, .int a5), (6, .int v727)]) rfl ?_
                  exact ihL684 v727 H724 hIH724 hJH724 e725 m726 (by first | with_reducible assumption | omega) (fun i hi => by rw [eH724]; if e : v714.toInt.toNat = (fZ H 0 2).toInt.toNat + i then (rw [← e, aZ_sA_eq hIH681 sm_1 (by first | with_reducible assumption | omega), fd_3 (by first | with_reducible assumption | omega), show 24 - 8 * (i % 4) = v720.toInt.toNat by omega]; exact by_m (by first | with_reducible assumption | omega) ov721 ov723 kv722) else (rw [aZ_sA_ne e]; exact q1 i (by first | with_reducible assumption | omega))) (fun q hq => by rw [eH724, aZ_sA_ne (by first | with_reducible assumption | omega)]; exact q2 q hq) (by first | with_reducible assumption | omega)
              · refine g_iload_n rfl ?_
                refine g_goto ?_
                refine g_istore (l' := [(0, .ref 0), (1, .int a1), (2, .int a2), (3, .int a3), (4, .int a4), (5, .int a5), (6, .int v680), (7, .int a3)]) rfl rfl ?_
                refine g_aload_n rfl ?_
                refine g_gfr hIH681 sm_0 rfl ?_
                refine g_aload_n rfl ?_
                refine g_gfk hIH681 sm_0 rfl e682 ?_
                refine g_iload rfl ?_
                refine g_iadd (by first | with_reducible assumption | omega) (fun v728 ev728 => ?_)
                refine g_iload rfl ?_
                refine g_bipush (by decide) (fun v729 kv729 => ?_)
                refine g_bipush (by decide) (fun v730 kv730 => ?_)
                refine g_iload rfl ?_
                refine g_iconst (by decide) (fun v731 kv731 => ?_)
                refine g_irem' (by first | with_reducible assumption | omega) (fun v732 ov732 => ?_)
                have rv732 := rem_4 ov732 (by first | with_reducible assumption | omega) (by first | with_reducible assumption | omega)
                have rrv732 : 0 ≤ v732.toInt ∧ v732.toInt ≤ 3 := by omega
                refine g_imulk' (n := 8) kv730 (by first | with_reducible assumption | omega) (fun v733 ev733 => ?_)
                refine g_isub (by first | with_reducible assumption | omega) (fun v734 ev734 => ?_)
                refine g_ishr' (fun v735 ov735 => ?_)
                refine g_sipush (by decide) (fun v736 kv736 => ?_)
                refine g_iand (by first | with_reducible assumption | omega) (fun v737 ov737 lv737 uv737 => ?_)
                refine g_iastore hIH681 sm_1 (by first | with_reducible assumption | omega) (by first | with_reducible assumption | omega) (fun H738 eH738 hIH738 => ?_)
                have hJH738 : JN H738 := JN_sA (by decide) eH738 hJH681
                have e739 : k0_2 = fZ H738 0 2 := by rw [eH738, fZ_sA]; exact e682
                have m740 : kpR H H738 := kpR_A m683 eH738 (by first | with_reducible assumption | omega)
                have ie739 : k0_2.toInt = (fZ H738 0 2).toInt := by rw [← e739]
                refine g_iinc (l' := (fun v741 => [(0, .ref 0), (1, .int a1), (2, .int a2), (3, .int a3), (4, .int a4), (5, .int a5), (6, .int v741), (7, .int a3)])) rfl rfl (by decide) (by first | with_reducible assumption | omega) (fun _ => rfl) (fun v741 ev741 => ?_)
                refine g_goto ?_
                refine gG_pick [0, 1, 2, 3, 4, 5, 6] (l' := [(0, .ref 0), (1, .int a1), (2, .int a2), (3, .int a3), (4, .int a4), (5, .int a5), (6, .int v741)]) rfl ?_
                exact ihL684 v741 H738 hIH738 hJH738 e739 m740 (by first | with_reducible assumption | omega) (fun i hi => by rw [eH738]; if e : v728.toInt.toNat = (fZ H 0 2).toInt.toNat + i then (rw [← e, aZ_sA_eq hIH681 sm_1 (by first | with_reducible assumption | omega), fd_2 (by first | with_reducible assumption | omega), show 24 - 8 * (i % 4) = v734.toInt.toNat by omega]; exact by_m (by first | with_reducible assumption | omega) ov735 ov737 kv736) else (rw [aZ_sA_ne e]; exact q1 i (by first | with_reducible assumption | omega))) (fun q hq => by rw [eH738, aZ_sA_ne (by first | with_reducible assumption | omega)]; exact q2 q hq) (by first | with_reducible assumption | omega)
            · refine g_iload_n rfl ?_
              refine g_goto ?_
              refine g_istore (l' := [(0, .ref 0), (1, .int a1), (2, .int a2), (3, .int a3), (4, .int a4), (5, .int a5), (6, .int v680), (7, .int a2)]) rfl rfl ?_
              refine g_aload_n rfl ?_
              refine g_gfr hIH681 sm_0 rfl ?_
              refine g_aload_n rfl ?_
              refine g_gfk hIH681 sm_0 rfl e682 ?_
              refine g_iload rfl ?_
              refine g_iadd (by first | with_reducible assumption | omega) (fun v742 ev742 => ?_)
              refine g_iload rfl ?_
              refine g_bipush (by decide) (fun v743 kv743 => ?_)
              refine g_bipush (by decide) (fun v744 kv744 => ?_)
              refine g_iload rfl ?_
              refine g_iconst (by decide) (fun v745 kv745 => ?_)
              refine g_irem' (by first | with_reducible assumption | omega) (fun v746 ov746 => ?_)
              have rv746 := rem_4 ov746 (by first | with_reducible assumption | omega) (by first | with_reducible assumption | omega)
              have rrv746 : 0 ≤ v746.toInt ∧ v746.toInt ≤ 3 := by omega
              refine g_imulk' (n := 8) kv744 (by first | with_reducible assumption | omega) (fun v747 ev747 => ?_)
              refine g_isub (by first | with_reducible assumption | omega) (fun v748 ev748 => ?_)
              refine g_ishr' (fun v749 ov749 => ?_)
              refine g_sipush (by decide) (fun v750 kv750 => ?_)
              refine g_iand (by first | with_reducible assumption | omega) (fun v751 ov751 lv751 uv751 => ?_)
              refine g_iastore hIH681 sm_1 (by first | with_reducible assumption | omega) (by first | with_reducible assumption | omega) (fun H752 eH752 hIH752 => ?_)
              have hJH752 : JN H752 := JN_sA (by decide) eH752 hJH681
              have e753 : k0_2 = fZ H752 0 2 := by rw [eH752, fZ_sA]; exact e682
              have m754 : kpR H H752 := kpR_A m683 eH752 (by first | with_reducible assumption | omega)
              have ie753 : k0_2.toInt = (fZ H752 0 2).toInt := by rw [← e753]
              refine g_iinc (l' := (fun v755 => [(0, .ref 0), (1, .int a1), (2, .int a2), (3, .int a3), (4, .int a4), (5, .int a5), (6, .int v755), (7, .int a2)])) rfl rfl (by decide) (by first | with_reducible assumption | omega) (fun _ => rfl) (fun v755 ev755 => ?_)
              refine g_goto ?_
              refine gG_pick [0, 1, 2, 3, 4, 5, 6] (l' := [(0, .ref 0), (1, .int a1), (2, .int a2), (3, .int a3), (4, .int a4), (5, .int a5), (6, .int v755)]) rfl ?_
              exact ihL684 v755 H752 hIH752 hJH752 e753 m754 (by first | with_reducible assumption | omega) (fun i hi => by rw [eH752]; if e : v742.toInt.toNat = (fZ H 0 2).toInt.toNat + i then (rw [← e, aZ_sA_eq hIH681 sm_1 (by first | with_reducible assumption | omega), fd_1 (by first | with_reducible assumption | omega), show 24 - 8 * (i % 4) = v748.toInt.toNat by omega]; exact by_m (by first | with_reducible assumption | omega) ov749 ov751 kv750) else (rw [aZ_sA_ne e]; exact q1 i (by first | with_reducible assumption | omega))) (fun q hq => by rw [eH752, aZ_sA_ne (by first | with_reducible assumption | omega)]; exact q2 q hq) (by first | with_reducible assumption | omega)
          · refine g_iload_n rfl ?_
            refine g_goto ?_
            refine g_istore (l' := [(0, .ref 0), (1, .int a1), (2, .int a2), (3, .int a3), (4, .int a4), (5, .int a5), (6, .int v680), (7, .int a1)]) rfl rfl ?_
            refine g_aload_n rfl ?_
            refine g_gfr hIH681 sm_0 rfl ?_
            refine g_aload_n rfl ?_
            refine g_gfk hIH681 sm_0 rfl e682 ?_
            refine g_iload rfl ?_
            refine g_iadd (by first | with_reducible assumption | omega) (fun v756 ev756 => ?_)
            refine g_iload rfl ?_
            refine g_bipush (by decide) (fun v757 kv757 => ?_)
            refine g_bipush (by decide) (fun v758 kv758 => ?_)
            refine g_iload rfl ?_
            refine g_iconst (by decide) (fun v759 kv759 => ?_)
            refine g_irem' (by first | with_reducible assumption | omega) (fun v760 ov760 => ?_)
            have rv760 := rem_4 ov760 (by first | with_reducible assumption | omega) (by first | with_reducible assumption | omega)
            have rrv760 : 0 ≤ v760.toInt ∧ v760.toInt ≤ 3 := by omega
            refine g_imulk' (n := 8) kv758 (by first | with_reducible assumption | omega) (fun v761 ev761 => ?_)
            refine g_isub (by first | with_reducible assumption | omega) (fun v762 ev762 => ?_)
            refine g_ishr' (fun v763 ov763 => ?_)
            refine g_sipush (by decide) (fun v764 kv764 => ?_)
            refine g_iand (by first | with_reducible assumption | omega) (fun v765 ov765 lv765 uv765 => ?_)
            refine g_iastore hIH681 sm_1 (by first | with_reducible assumption | omega) (by first | with_reducible assumption | omega) (fun H766 eH766 hIH766 => ?_)
            have hJH766 : JN H766 := JN_sA (by decide) eH766 hJH681
            have e767 : k0_2 = fZ H766 0 2 := by rw [eH766, fZ_sA]; exact e682
            have m768 : kpR H H766 := kpR_A m683 eH766 (by first | with_reducible assumption | omega)
            have ie767 : k0_2.toInt = (fZ H766 0 2).toInt := by rw [← e767]
            refine g_iinc (l' := (fun v769 => [(0, .ref 0), (1, .int a1), (2, .int a2), (3, .int a3), (4, .int a4), (5, .int a5), (6, .int v769), (7, .int a1)])) rfl rfl (by decide) (by first | with_reducible assumption | omega) (fun _ => rfl) (fun v769 ev769 => ?_)
            refine g_goto ?_
            refine gG_pick [0, 1, 2, 3, 4, 5, 6] (l' := [(0, .ref 0), (1, .int a1), (2, .int a2), (3, .int a3), (4, .int a4), (5, .int a5), (6, .int v769)]) rfl ?_
            exact ihL684 v769 H766 hIH766 hJH766 e767 m768 (by first | with_reducible assumption | omega) (fun i hi => by rw [eH766]; if e : v756.toInt.toNat = (fZ H 0 2).toInt.toNat + i then (rw [← e, aZ_sA_eq hIH681 sm_1 (by first | with_reducible assumption | omega), fd_0 (by first | with_reducible assumption | omega), show 24 - 8 * (i % 4) = v762.toInt.toNat by omega]; exact by_m (by first | with_reducible assumption | omega) ov763 ov765 kv764) else (rw [aZ_sA_ne e]; exact q1 i (by first | with_reducible assumption | omega))) (fun q hq => by rw [eH766, aZ_sA_ne (by first | with_reducible assumption | omega)]; exact q2 q hq) (by first | with_reducible assumption | omega)
    exact L684 _ v679 H674 hIH674 hJH674 e675 m676 (by first | with_reducible assumption | omega) (fun i hi => absurd hi (by first | with_reducible assumption | omega)) (fun _ _ => by rw [eH674, aZ_sF]) (Nat.lt_succ_self _)
  · refine g_iconst (by decide) (fun v770 kv770 => ?_)
    exact g_iret ⟨_, rfl, hIH674, hJH674, m676, (by first | with_reducible assumption | omega), (Or.inl ⟨by omega, fun i => by rw [eH674, aZ_sF]⟩)⟩
