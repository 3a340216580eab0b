/-! SETS AS LONGS -/
/-- a bit of a long -/
def lbi (v : Int64) (k : Nat) : Int := if v.toBitVec.getLsbD k = true then 1 else 0
theorem lbi_b {v : Int64} {k : Nat} : lbi v k = 0 ∨ lbi v k = 1 := by
  unfold lbi
  split
  · exact Or.inr rfl
  · exact Or.inl rfl
theorem lbi_t {v : Int64} {k : Nat} : lbi v k = 1 ↔ v.toBitVec.getLsbD k = true := by
  unfold lbi
  split
  · rename_i h
    exact ⟨fun _ => h, fun _ => rfl⟩
  · rename_i h
    exact ⟨fun z => absurd z (by decide), fun z => absurd z h⟩
theorem lbi_0 {v : Int64} {k : Nat} (o : v = Int64.ofNat 0) : lbi v k = 0 := by
  subst o
  unfold lbi
  rw [if_neg]
  rw [show (Int64.ofNat 0).toBitVec = 0#64 from rfl, BitVec.getLsbD_zero]
  decide
theorem i64_of {b : Int32} (h : 0 ≤ b.toInt ∧ b.toInt ≤ 63) : b = Int32.ofNat b.toInt.toNat := Int32.toInt_inj.mp (by
  have e : ∀ n : Fin 64, (Int32.ofNat n.val).toInt = n.val := by decide
  have := e ⟨b.toInt.toNat, by omega⟩
  rw [show (Int32.ofNat b.toInt.toNat).toInt = _ from this]
  show b.toInt = ((b.toInt.toNat : Nat) : Int)
  omega)
set_option maxRecDepth 100000 in
theorem shl_t : ∀ n : Fin 64, ((Int64.ofNat 1) <<< ((Int32.ofNat n.val).toInt64 &&& 63)).toBitVec = 1#64 <<< n.val := by decide +kernel
set_option maxRecDepth 100000 in
theorem shr_t : ∀ n : Fin 64, ((Int32.ofNat n.val).toInt64.toUInt64 &&& Int64.toUInt64 63) = UInt64.ofNat n.val ∧ ((UInt64.ofNat n.val).toBitVec % 64).toNat = n.val := by decide +kernel
theorem lbi_shl {a v : Int64} {b : Int32} {k : Nat} (o : v = a <<< (b.toInt64 &&& 63)) (oa : a = Int64.ofNat 1) (hb : 0 ≤ b.toInt ∧ b.toInt ≤ 63) (hk : k < 64) : lbi v k = if k = b.toInt.toNat then 1 else 0 := by
  have e : v.toBitVec = 1#64 <<< b.toInt.toNat := by
    have := shl_t ⟨b.toInt.toNat, by omega⟩
    rw [o, oa, i64_of hb]
    have z : (Int32.ofNat b.toInt.toNat).toInt.toNat = b.toInt.toNat := by rw [← i64_of hb]
    rw [z]
    exact this
  unfold lbi
  rw [e, BitVec.getLsbD_shiftLeft]
  if c : k = b.toInt.toNat then
    rw [if_pos c, if_pos]
    subst c
    simp only [hk, Nat.lt_irrefl, Nat.sub_self, decide_true, decide_false, Bool.not_false, Bool.true_and]
    rfl
  else
    rw [if_neg c, if_neg]
    simp only [Bool.and_eq_true, Bool.not_eq_true', decide_eq_false_iff_not, decide_eq_true_eq, not_and]
    intro h1
    rw [BitVec.getLsbD_one]
    simp only [decide_eq_true_eq, Bool.and_eq_true]
    omega
theorem lbi_or {a b v : Int64} {k : Nat} (o : v = a ||| b) : lbi v k = if lbi a k = 1 ∨ lbi b k = 1 then 1 else 0 := by
  have e : lbi v k = 1 ↔ (lbi a k = 1 ∨ lbi b k = 1) := by
    rw [lbi_t, lbi_t, lbi_t, o, show (a ||| b).toBitVec = a.toBitVec ||| b.toBitVec from Int64.toBitVec_or a b, BitVec.getLsbD_or, Bool.or_eq_true]
  have := lbi_b (v := v) (k := k)
  split
  · rename_i h; exact e.mpr h
  · rename_i h
    rcases this with z | z
    · exact z
    · exact absurd (e.mp z) h
theorem lbi_and {a b v : Int64} {k : Nat} (o : v = a &&& b) : lbi v k = if lbi a k = 1 ∧ lbi b k = 1 then 1 else 0 := by
  have e : lbi v k = 1 ↔ (lbi a k = 1 ∧ lbi b k = 1) := by
    rw [lbi_t, lbi_t, lbi_t, o, show (a &&& b).toBitVec = a.toBitVec &&& b.toBitVec from Int64.toBitVec_and a b, BitVec.getLsbD_and, Bool.and_eq_true]
  have := lbi_b (v := v) (k := k)
  split
  · rename_i h; exact e.mpr h
  · rename_i h
    rcases this with z | z
    · exact z
    · exact absurd (e.mp z) h
theorem lbi_ext {a b : Int64} (h : ∀ k, k < 64 → lbi a k = lbi b k) : a = b := Int64.toBitVec_inj.mp (BitVec.eq_of_getLsbD_eq (fun k hk => by
  have := h k hk
  unfold lbi at this
  cases ha : a.toBitVec.getLsbD k <;> cases hb : b.toBitVec.getLsbD k <;> rw [ha, hb] at this <;> first | rfl | exact absurd this (by decide)))
theorem lbi_sh {a v : Int64} {b : Int32} {k : Nat} (o : v = ((a.toUInt64 >>> (b.toInt64.toUInt64 &&& Int64.toUInt64 63)).toInt64)) (hb : 0 ≤ b.toInt ∧ b.toInt ≤ 63) : lbi v k = lbi a (b.toInt.toNat + k) := by
  have e : v.toBitVec = a.toBitVec >>> b.toInt.toNat := by
    obtain ⟨t1, t2⟩ := shr_t ⟨b.toInt.toNat, by omega⟩
    rw [o]
    show (a.toUInt64 >>> (b.toInt64.toUInt64 &&& Int64.toUInt64 63)).toBitVec = _
    rw [show (b.toInt64.toUInt64 &&& Int64.toUInt64 63) = UInt64.ofNat b.toInt.toNat by
      have := t1
      rw [← i64_of hb] at this
      exact this]
    rw [UInt64.toBitVec_shiftRight]
    rw [BitVec.ushiftRight_eq', t2]
    rfl
  unfold lbi
  rw [e, BitVec.getLsbD_ushiftRight]
/-- one bit is looked at -/
theorem lbi_tst {a s t one zero : Int64} {b v : Int32} (o1 : s = ((a.toUInt64 >>> (b.toInt64.toUInt64 &&& Int64.toUInt64 63)).toInt64)) (o2 : t = s &&& one) (oo : one = Int64.ofNat 1) (oz : zero = Int64.ofNat 0) (ov : v = lg_cmp t zero) (hb : 0 ≤ b.toInt ∧ b.toInt ≤ 63) : (v.toInt = 0 ∧ lbi a b.toInt.toNat = 0) ∨ (v.toInt ≠ 0 ∧ lbi a b.toInt.toNat = 1) := by
  have h1 : ∀ k, k < 64 → lbi one k = if k = 0 then 1 else 0 := fun k hk => by
    unfold lbi
    rw [oo, show (Int64.ofNat 1).toBitVec = 1#64 from rfl, BitVec.getLsbD_one]
    if c : k = 0 then subst c; rfl
    else
      rw [if_neg c, if_neg]
      simp only [decide_eq_true_eq, Bool.and_eq_true]
      omega
  have h2 : ∀ k, k < 64 → lbi t k = if k = 0 ∧ lbi a b.toInt.toNat = 1 then 1 else 0 := fun k hk => by
    rw [lbi_and o2, h1 k hk, lbi_sh o1 hb]
    if c : k = 0 then
      subst c
      rw [Nat.add_zero]
      have := lbi_b (v := a) (k := b.toInt.toNat)
      rcases this with z | z <;> rw [z] <;> rfl
    else
      rw [if_neg c, if_neg (fun z => absurd z.2 (by decide)), if_neg (fun z => c z.1)]
  rcases lbi_b (v := a) (k := b.toInt.toNat) with z | z
  · left
    refine ⟨?_, z⟩
    have : t = zero := lbi_ext (fun k hk => by rw [h2 k hk, lbi_0 oz, if_neg (fun y => by rw [z] at y; exact absurd y.2 (by decide))])
    rw [ov, this]
    unfold lg_cmp
    simp
  · right
    refine ⟨fun q => ?_, z⟩
    have hn : t ≠ zero := fun y => by
      have k0 := h2 0 (by decide)
      rw [if_pos ⟨rfl, z⟩, y, lbi_0 oz] at k0
      exact absurd k0 (by decide)
    rw [ov] at q
    unfold lg_cmp at q
    rw [if_neg (c := t = zero) hn] at q
    split at q
    · exact absurd q (by decide)
    · exact absurd q (by decide)
/-- the first x things that are so -/
def isS (v : Int64) (P : Nat → Prop) (x : Nat) : Prop := ∀ k, k < 64 → (lbi v k = 1 ↔ (k < x ∧ P k))
theorem is_0 {v : Int64} {P : Nat → Prop} {x : Nat} (o : v = Int64.ofNat 0) (e : x = 0) : isS v P x := fun k _ => by
  subst e
  rw [lbi_0 o]
  exact ⟨fun z => absurd z (by decide), fun z => absurd z.1 (Nat.not_lt_zero _)⟩
theorem is_n {v : Int64} {P : Nat → Prop} {x x2 : Nat} (h : isS v P x) (e : x2 = x + 1) (n : ¬ P x) : isS v P x2 := fun k hk => by
  subst e
  rw [h k hk]
  refine ⟨fun z => ⟨by omega, z.2⟩, fun z => ⟨?_, z.2⟩⟩
  if c : k = x then subst c; exact absurd z.2 n
  else omega
theorem is_y {a s one w : Int64} {b : Int32} {P : Nat → Prop} {x x2 : Nat} (h : isS a P x) (o1 : s = one <<< (b.toInt64 &&& 63)) (oo : one = Int64.ofNat 1) (ow : w = a ||| s) (hb : 0 ≤ b.toInt ∧ b.toInt ≤ 63) (eb : b.toInt.toNat = x) (e : x2 = x + 1) (n : P x) : isS w P x2 := fun k hk => by
  subst e
  rw [lbi_or ow, lbi_shl o1 oo hb hk, eb]
  have hk := h k hk
  if c : k = x then
    subst c
    rw [if_pos rfl, if_pos (Or.inr rfl)]
    exact ⟨fun _ => ⟨by omega, n⟩, fun _ => rfl⟩
  else
    rw [if_neg c]
    if d : lbi a k = 1 then
      rw [if_pos (Or.inl d)]
      have := hk.mp d
      exact ⟨fun _ => ⟨by omega, this.2⟩, fun _ => rfl⟩
    else
      rw [if_neg (fun z => z.elim d (fun y => absurd y (by decide)))]
      exact ⟨fun z => absurd z (by decide), fun z => absurd (hk.mpr ⟨by omega, z.2⟩) d⟩
/-- the i-th number of those that are so -/
def pkF (f : Nat → Int) : Nat → Nat → Int → Int
  | 0, _, _ => -2
  | u + 1, n, i => if f n = 1 then (if i = 0 then (n : Int) else pkF f u (n + 1) (i - 1)) else pkF f u (n + 1) i
theorem pk_y {f : Nat → Int} {u n : Nat} {i : Int} (h : f n = 1) (hi : i = 0) (hu : 0 < u) : pkF f u n i = (n : Int) := by
  obtain ⟨w, rfl⟩ : ∃ w, u = w + 1 := ⟨u - 1, by omega⟩
  unfold pkF
  rw [if_pos h, if_pos hi]
theorem pk_s {f : Nat → Int} {u u2 n n2 : Nat} {i i2 R : Int} (q : pkF f u n i = R) (h : f n = 1) (hi : i ≠ 0) (hu : u = u2 + 1) (hn : n2 = n + 1) (e : i2 = i - 1) : pkF f u2 n2 i2 = R := by
  subst hu hn e
  unfold pkF at q
  rw [if_pos h, if_neg hi] at q
  exact q
theorem pk_n {f : Nat → Int} {u u2 n n2 : Nat} {i i2 R : Int} (q : pkF f u n i = R) (h : ¬ f n = 1) (hu : u = u2 + 1) (hn : n2 = n + 1) (e : i2 = i) : pkF f u2 n2 i2 = R := by
  subst hu hn e
  unfold pkF at q
  rw [if_neg h] at q
  exact q
theorem pk_e {f : Nat → Int} {u n : Nat} {i R : Int} (q : pkF f u n i = R) (h : u = 0) : R = -2 := by
  subst h
  exact q.symm
theorem pk_cg {f g : Nat → Int} : ∀ {u n : Nat} {i : Int}, (∀ k, n ≤ k → k < n + u → (f k = 1 ↔ g k = 1)) → pkF f u n i = pkF g u n i
  | 0, _, _, _ => rfl
  | u + 1, n, i, h => by
    unfold pkF
    have e1 : pkF f u (n + 1) (i - 1) = pkF g u (n + 1) (i - 1) := pk_cg (fun k h1 h2 => h k (by omega) (by omega))
    have e2 : pkF f u (n + 1) i = pkF g u (n + 1) i := pk_cg (fun k h1 h2 => h k (by omega) (by omega))
    rw [e1, e2]
    have z := h n (Nat.le_refl _) (by omega)
    if c : f n = 1 then rw [if_pos c, if_pos (z.mp c)]
    else rw [if_neg c, if_neg (fun y => c (z.mpr y))]
theorem pk_none {f : Nat → Int} : ∀ {u n : Nat} {i : Int}, (∀ k, n ≤ k → k < n + u → ¬ f k = 1) → pkF f u n i = -2
  | 0, _, _, _ => rfl
  | u + 1, n, i, h => by
    unfold pkF
    rw [if_neg (h n (Nat.le_refl _) (by omega))]
    exact pk_none (fun k h1 h2 => h k (by omega) (by omega))
theorem pk_up {f : Nat → Int} {w : Nat} : ∀ {u n : Nat} {i : Int}, (∀ k, n + u ≤ k → k < n + u + w → ¬ f k = 1) → pkF f (u + w) n i = pkF f u n i
  | 0, n, i, h => by
    rw [Nat.zero_add]
    exact pk_none (fun k h1 h2 => h k (by omega) (by omega))
  | u + 1, n, i, h => by
    rw [show u + 1 + w = (u + w) + 1 by omega]
    unfold pkF
    rw [pk_up (fun k h1 h2 => h k (by omega) (by omega)), pk_up (fun k h1 h2 => h k (by omega) (by omega))]
/-- what is picked of a set -/
theorem pk_set {v : Int64} {P : Nat → Prop} {g : Nat → Int} {i : Int} (h : isS v P 40) (e : ∀ k, k < 40 → (P k ↔ g k = 1)) : pkF (lbi v) 64 0 i = pkF g 40 0 i := by
  rw [show (64 : Nat) = 40 + 24 from rfl, pk_up (fun k h1 h2 z => by
    have := (h k (by omega)).mp z
    omega)]
  exact pk_cg (fun k _ h2 => ⟨fun z => (e k (by omega)).mp ((h k (by omega)).mp z).2, fun z => (h k (by omega)).mpr ⟨by omega, (e k (by omega)).mpr z⟩⟩)
