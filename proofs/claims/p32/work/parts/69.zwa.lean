/-! SETS AS LONGS -/
/-- a bit of a long -/
def lbi (v : Int64) (k : Nat) : Int := if v.toBitVec.getLsbD k = true then 1 else 0
theorem lbi_b {v : Int64} {k : Nat} : lbi v k = 0 ∨ lbi v k = 1 := by
  unfold lbi
  split
  · exact Or.inr rfl
  · exact Or.inl rfl
theorem lbi_t {v : Int64} {k : Nat} : lbi v k = 1 ↔ v.toBitVec.getLsbD k = true := by
  unfold lbi
  split
  · rename_i h
    exact ⟨fun _ => h, fun _ => rfl⟩
  · rename_i h
    exact ⟨fun z => absurd z (by decide), fun z => absurd z h⟩
theorem lbi_0 {v : Int64} {k : Nat} (o : v = Int64.ofNat 0) : lbi v k = 0 := by
  subst o
  unfold lbi
  rw [if_neg]
  rw [show (Int64.ofNat 0).toBitVec = 0#64 from rfl, BitVec.getLsbD_zero]
  decide
theorem i64_of {b : Int32} (h : 0 ≤ b.toInt ∧ b.toInt ≤ 63) : b = Int32.ofNat b.toInt.toNat := Int32.toInt_inj.mp (by
  have e : ∀ n : Fin 64, (Int32.ofNat n.val).toInt = n.val := by decide
  have := e ⟨b.toInt.toNat, by omega⟩
  rw [show (Int32.ofNat b.toInt.toNat).toInt = _ from this]
  show b.toInt = ((b.toInt.toNat : Nat) : Int)
  omega)
set_option maxRecDepth 100000 in
theorem shl_t : ∀ n : Fin 64, ((Int64.ofNat 1) <<< ((Int32.ofNat n.val).toInt64 &&& 63)).toBitVec = 1#64 <<< n.val := by decide +kernel
set_option maxRecDepth 100000 in
theorem shr_t : ∀ n : Fin 64, ((Int32.ofNat n.val).toInt64.toUInt64 &&& Int64.toUInt64 63) = UInt64.ofNat n.val ∧ ((UInt64.ofNat n.val).toBitVec % 64).toNat = n.val := by decide +kernel
theorem lbi_shl {a v : Int64} {b : Int32} {k : Nat} (o : v = a <<< (b.toInt64 &&& 63)) (oa : a = Int64.ofNat 1) (hb : 0 ≤ b.toInt ∧ b.toInt ≤ 63) (hk : k < 64) : lbi v k = if k = b.toInt.toNat then 1 else 0 := by
  have e : v.toBitVec = 1#64 <<< b.toInt.toNat := by
    have := shl_t ⟨b.toInt.toNat, by omega⟩
    rw [o, oa, i64_of hb]
    have z : (Int32.ofNat b.toInt.toNat).toInt.toNat = b.toInt.toNat := by rw [← i64_of hb]
    rw [z]
    exact this
  unfold lbi
  rw [e, BitVec.getLsbD_shiftLeft]
  if c : k = b.toInt.toNat then
    rw [if_pos c, if_pos]
    subst c
    simp only [hk, Nat.lt_irrefl, Nat.sub_self, decide_true, decide_false, Bool.not_false, Bool.true_and]
    rfl
  else
    rw [if_neg c, if_neg]
    simp only [Bool.and_eq_true, Bool.not_eq_true', decide_eq_false_iff_not, decide_eq_true_eq, not_and]
    intro h1
    rw [BitVec.getLsbD_one]
    simp only [decide_eq_true_eq, Bool.and_eq_true]
    omega
theorem lbi_or {a b v : Int64} {k : Nat} (o : v = a ||| b) : lbi v k = if lbi a k = 1 ∨ lbi b k = 1 then 1 else 0 := by
  have e : lbi v k = 1 ↔ (lbi a k = 1 ∨ lbi b k = 1) := by
    rw [lbi_t, lbi_t, lbi_t, o, show (a ||| b).toBitVec = a.toBitVec ||| b.toBitVec from Int64.toBitVec_or a b, BitVec.getLsbD_or, Bool.or_eq_true]
  have := lbi_b (v := v) (k := k)
  split
  · rename_i h; exact e.mpr h
  · rename_i h
    rcases this with z | z
    · exact z
    · exact absurd (e.mp z) h
/-- the first x things that are so -/
def isS (v : Int64) (P : Nat → Prop) (x : Nat) : Prop := ∀ k, k < 64 → (lbi v k = 1 ↔ (k < x ∧ P k))
theorem is_0 {v : Int64} {P : Nat → Prop} {x : Nat} (o : v = Int64.ofNat 0) (e : x = 0) : isS v P x := fun k _ => by
  subst e
  rw [lbi_0 o]
  exact ⟨fun z => absurd z (by decide), fun z => absurd z.1 (Nat.not_lt_zero _)⟩
theorem is_n {v : Int64} {P : Nat → Prop} {x x2 : Nat} (h : isS v P x) (e : x2 = x + 1) (n : ¬ P x) : isS v P x2 := fun k hk => by
  subst e
  rw [h k hk]
  refine ⟨fun z => ⟨by omega, z.2⟩, fun z => ⟨?_, z.2⟩⟩
  if c : k = x then subst c; exact absurd z.2 n
  else omega
theorem is_y {a s one w : Int64} {b : Int32} {P : Nat → Prop} {x x2 : Nat} (h : isS a P x) (o1 : s = one <<< (b.toInt64 &&& 63)) (oo : one = Int64.ofNat 1) (ow : w = a ||| s) (hb : 0 ≤ b.toInt ∧ b.toInt ≤ 63) (eb : b.toInt.toNat = x) (e : x2 = x + 1) (n : P x) : isS w P x2 := fun k hk => by
  subst e
  rw [lbi_or ow, lbi_shl o1 oo hb hk, eb]
  have hk := h k hk
  if c : k = x then
    subst c
    rw [if_pos rfl, if_pos (Or.inr rfl)]
    exact ⟨fun _ => ⟨by omega, n⟩, fun _ => rfl⟩
  else
    rw [if_neg c]
    if d : lbi a k = 1 then
      rw [if_pos (Or.inl d)]
      have := hk.mp d
      exact ⟨fun _ => ⟨by omega, this.2⟩, fun _ => rfl⟩
    else
      rw [if_neg (fun z => z.elim d (fun y => absurd y (by decide)))]
      exact ⟨fun z => absurd z (by decide), fun z => absurd (hk.mpr ⟨by omega, z.2⟩) d⟩
/-- the i-th number of those that are so -/
def pkF (f : Nat → Int) : Nat → Nat → Int → Int
  | 0, _, _ => -2
  | u + 1, n, i => if f n = 1 then (if i = 0 then (n : Int) else pkF f u (n + 1) (i - 1)) else pkF f u (n + 1) i
