/-! HOW MANY BITS -/
/-- a number by its digits of w bits -/
def dg (w : Nat) : (Nat → Nat) → Nat → Nat
  | _, 0 => 0
  | f, n + 1 => f 0 + 2 ^ w * dg w (fun i => f (i + 1)) n
theorem dg_s {w n : Nat} {f : Nat → Nat} : dg w f (n + 1) = f 0 + 2 ^ w * dg w (fun i => f (i + 1)) n := rfl
theorem dg_cg {w : Nat} : ∀ {n : Nat} {f g : Nat → Nat}, (∀ i, i < n → f i = g i) → dg w f n = dg w g n
  | 0, _, _, _ => rfl
  | n + 1, f, g, h => by
    unfold dg
    rw [h 0 (by omega), dg_cg (n := n) (fun i hi => h (i + 1) (by omega))]
theorem dg_add {w : Nat} : ∀ {n : Nat} {f g : Nat → Nat}, dg w f n + dg w g n = dg w (fun i => f i + g i) n
  | 0, _, _ => rfl
  | n + 1, f, g => by
    have ih := dg_add (w := w) (n := n) (f := fun i => f (i + 1)) (g := fun i => g (i + 1))
    rw [dg_s, dg_s, dg_s]
    show f 0 + 2 ^ w * dg w (fun i => f (i + 1)) n + (g 0 + 2 ^ w * dg w (fun i => g (i + 1)) n) = (f 0 + g 0) + 2 ^ w * dg w (fun i => f (i + 1) + g (i + 1)) n
    rw [← ih, Nat.mul_add]
    omega
theorem dg_lt {w : Nat} : ∀ {n : Nat} {f : Nat → Nat}, (∀ i, i < n → f i < 2 ^ w) → dg w f n < 2 ^ (w * n)
  | 0, _, _ => by
    unfold dg
    exact Nat.two_pow_pos _
  | n + 1, f, h => by
    have h1 := dg_lt (n := n) (f := fun i => f (i + 1)) (fun i hi => h (i + 1) (by omega))
    have h2 := h 0 (by omega)
    unfold dg
    rw [Nat.mul_succ, Nat.add_comm (w * n) w, Nat.pow_add]
    have h3 : 2 ^ w * (dg w (fun i => f (i + 1)) n + 1) ≤ 2 ^ w * 2 ^ (w * n) := Nat.mul_le_mul_left _ h1
    rw [Nat.mul_add, Nat.mul_one] at h3
    omega
/-- digits by twos -/
theorem dg_two {w : Nat} : ∀ {n : Nat} {f : Nat → Nat}, dg w f (2 * n) = dg (2 * w) (fun i => f (2 * i) + 2 ^ w * f (2 * i + 1)) n
  | 0, _ => rfl
  | n + 1, f => by
    have ih := dg_two (w := w) (n := n) (f := fun i => f (i + 2))
    have e : dg (2 * w) (fun i => f (2 * i + 2) + 2 ^ w * f (2 * i + 1 + 2)) n = dg (2 * w) (fun i => f (2 * (i + 1)) + 2 ^ w * f (2 * (i + 1) + 1)) n := dg_cg (fun i _ => by rw [show 2 * (i + 1) = 2 * i + 2 by omega])
    rw [show 2 * (n + 1) = (2 * n + 1) + 1 by omega, dg_s, dg_s, dg_s]
    show f 0 + 2 ^ w * (f 1 + 2 ^ w * dg w (fun i => f (i + 2)) (2 * n)) = (f 0 + 2 ^ w * f 1) + 2 ^ (2 * w) * dg (2 * w) (fun i => f (2 * (i + 1)) + 2 ^ w * f (2 * (i + 1) + 1)) n
    rw [← e, ← ih, Nat.mul_add, ← Nat.mul_assoc, ← Nat.pow_add, show w + w = 2 * w by omega, Nat.add_assoc]
theorem and_dg {w a b r s : Nat} (ha : a < 2 ^ w) (hb : b < 2 ^ w) : (a + 2 ^ w * r) &&& (b + 2 ^ w * s) = (a &&& b) + 2 ^ w * (r &&& s) := by
  apply Nat.eq_of_testBit_eq
  intro i
  rw [Nat.testBit_and, Nat.add_comm a, Nat.add_comm b, Nat.add_comm (a &&& b), Nat.testBit_two_pow_mul_add _ ha, Nat.testBit_two_pow_mul_add _ hb, Nat.testBit_two_pow_mul_add _ (Nat.and_lt_two_pow _ hb)]
  split
  · rw [Nat.testBit_and]
  · rw [Nat.testBit_and]
theorem dg_and {w : Nat} : ∀ {n : Nat} {f g : Nat → Nat}, (∀ i, i < n → f i < 2 ^ w) → (∀ i, i < n → g i < 2 ^ w) → (dg w f n) &&& (dg w g n) = dg w (fun i => f i &&& g i) n
  | 0, _, _, _, _ => by
    unfold dg
    rfl
  | n + 1, f, g, h, k => by
    unfold dg
    rw [and_dg (h 0 (by omega)) (k 0 (by omega)), dg_and (n := n) (fun i hi => h (i + 1) (by omega)) (fun i hi => k (i + 1) (by omega))]
theorem dg_sh1 {w n : Nat} {f : Nat → Nat} (h : f 0 < 2 ^ w) : dg w f (n + 1) / 2 ^ w = dg w (fun i => f (i + 1)) n := by
  rw [dg_s, Nat.add_mul_div_left _ _ (Nat.two_pow_pos w), Nat.div_eq_of_lt h, Nat.zero_add]
theorem dg_up {w : Nat} : ∀ {n : Nat} {f : Nat → Nat}, f n = 0 → dg w f (n + 1) = dg w f n
  | 0, f, h => by
    unfold dg
    rw [h]
    unfold dg
    rfl
  | n + 1, f, h => by
    rw [show dg w f (n + 1 + 1) = f 0 + 2 ^ w * dg w (fun i => f (i + 1)) (n + 1) from rfl, dg_up (n := n) (f := fun i => f (i + 1)) h]
    rfl
/-- one digit less, the length kept -/
theorem dg_sh {w n : Nat} {f : Nat → Nat} (h : f 0 < 2 ^ w) (hz : f (n + 1) = 0) : dg w f (n + 1) / 2 ^ w = dg w (fun i => f (i + 1)) (n + 1) := by
  rw [dg_sh1 h]
  exact (dg_up (f := fun i => f (i + 1)) hz).symm
def btN (v : Int64) (k : Nat) : Nat := if v.toBitVec.getLsbD k = true then 1 else 0
theorem btN_l {v : Int64} {k : Nat} : (btN v k : Int) = lbi v k := by
  unfold btN lbi
  split <;> rfl
theorem btN_1 {v : Int64} {k : Nat} : btN v k < 2 := by
  unfold btN
  split <;> decide
theorem btN_64 {v : Int64} {k : Nat} (h : 64 ≤ k) : btN v k = 0 := by
  unfold btN
  rw [if_neg]
  rw [BitVec.getLsbD_of_ge _ _ h]
  decide
theorem nat_dg : ∀ (n x : Nat), x < 2 ^ n → x = dg 1 (fun i => (x.testBit i).toNat) n
  | 0, x, h => by
    unfold dg
    rw [Nat.pow_zero] at h
    omega
  | n + 1, x, h => by
    have ih := nat_dg n (x / 2) (by rw [Nat.pow_succ] at h; omega)
    unfold dg
    have e : dg 1 (fun i => (x.testBit (i + 1)).toNat) n = dg 1 (fun i => ((x / 2).testBit i).toNat) n := dg_cg (fun i _ => by rw [Nat.testBit_succ])
    rw [e, ← ih]
    show x = (x.testBit 0).toNat + 2 ^ 1 * (x / 2)
    rw [Nat.testBit_zero]
    have := Nat.mod_two_eq_zero_or_one x
    rcases this with z | z <;> rw [z] <;> simp only [Nat.pow_one] <;> (first | (show x = 0 + 2 * (x / 2); omega) | (show x = 1 + 2 * (x / 2); omega))
theorem v_dg {v : Int64} : v.toBitVec.toNat = dg 1 (btN v) 64 := by
  rw [nat_dg 64 v.toBitVec.toNat v.toBitVec.isLt]
  refine dg_cg (fun i _ => ?_)
  show (v.toBitVec.getLsbD i).toNat = btN v i
  unfold btN
  cases v.toBitVec.getLsbD i <;> rfl
/-! the six steps, over Nat -/
def bN (v : Int64) : Nat := v.toBitVec.toNat
theorem bN_and {a b v : Int64} (o : v = a &&& b) : bN v = bN a &&& bN b := by
  unfold bN
  rw [o, show (a &&& b).toBitVec = a.toBitVec &&& b.toBitVec from Int64.toBitVec_and a b, BitVec.toNat_and]
theorem bN_add {a b v : Int64} (o : v = a + b) (h : bN a + bN b < 2 ^ 64) : bN v = bN a + bN b := by
  unfold bN at h ⊢
  rw [o, show (a + b).toBitVec = a.toBitVec + b.toBitVec from Int64.toBitVec_add, BitVec.toNat_add, Nat.mod_eq_of_lt h]
theorem bN_sub {a b v : Int64} (o : v = a - b) (h : bN b ≤ bN a) : bN v = bN a - bN b := by
  unfold bN at h ⊢
  have := a.toBitVec.isLt
  have := b.toBitVec.isLt
  rw [o, show (a - b).toBitVec = a.toBitVec - b.toBitVec from Int64.toBitVec_sub, BitVec.toNat_sub]
  omega
theorem bN_shr {a v : Int64} {b : Int32} (o : v = ((a.toUInt64 >>> (b.toInt64.toUInt64 &&& Int64.toUInt64 63)).toInt64)) {k : Nat} (hb : b.toInt = k) (hk : k ≤ 63) : bN v = bN a / 2 ^ k := by
  have e : v.toBitVec = a.toBitVec >>> b.toInt.toNat := by
    obtain ⟨t1, t2⟩ := shr_t ⟨b.toInt.toNat, by omega⟩
    rw [o]
    show (a.toUInt64 >>> (b.toInt64.toUInt64 &&& Int64.toUInt64 63)).toBitVec = _
    rw [show (b.toInt64.toUInt64 &&& Int64.toUInt64 63) = UInt64.ofNat b.toInt.toNat by
      have := t1
      rw [← i64_of (by omega)] at this
      exact this]
    rw [UInt64.toBitVec_shiftRight, BitVec.ushiftRight_eq', t2]
    rfl
  unfold bN
  rw [e, BitVec.toNat_ushiftRight, Nat.shiftRight_eq_div_pow, show b.toInt.toNat = k by omega]
def sm (f : Nat → Nat) : Nat → Nat
  | 0 => 0
  | n + 1 => sm f n + f n
theorem sm_two {f : Nat → Nat} : ∀ {n : Nat}, sm f (2 * n) = sm (fun i => f (2 * i) + f (2 * i + 1)) n
  | 0 => rfl
  | n + 1 => by
    rw [show 2 * (n + 1) = 2 * n + 1 + 1 by omega]
    show sm f (2 * n) + f (2 * n) + f (2 * n + 1) = sm (fun i => f (2 * i) + f (2 * i + 1)) n + (f (2 * n) + f (2 * n + 1))
    rw [sm_two (n := n), Nat.add_assoc]
/-- every other digit -/
theorem dg_mask {w n : Nat} {f : Nat → Nat} (h : ∀ i, i < 2 * n → f i < 2 ^ w) : dg w f (2 * n) &&& dg w (fun i => if i % 2 = 0 then 2 ^ w - 1 else 0) (2 * n) = dg (2 * w) (fun i => f (2 * i)) n := by
  have hp := Nat.two_pow_pos w
  rw [dg_and h (fun i _ => by split <;> omega), dg_two]
  refine dg_cg (fun i hi => ?_)
  show (f (2 * i) &&& (if 2 * i % 2 = 0 then 2 ^ w - 1 else 0)) + 2 ^ w * (f (2 * i + 1) &&& (if (2 * i + 1) % 2 = 0 then 2 ^ w - 1 else 0)) = f (2 * i)
  rw [if_pos (by omega), if_neg (by omega), Nat.and_zero, Nat.mul_zero, Nat.add_zero, Nat.and_two_pow_sub_one_of_lt_two_pow (h (2 * i) (by omega))]
theorem m5_dg {M : Int64} (o : M = Int64.ofNat 6148914691236517205) : bN M = dg 1 (fun i => if i % 2 = 0 then 2 ^ 1 - 1 else 0) (2 * 32) := by
  subst o
  decide +kernel
theorem m3_dg {M : Int64} (o : M = Int64.ofNat 3689348814741910323) : bN M = dg 2 (fun i => if i % 2 = 0 then 2 ^ 2 - 1 else 0) (2 * 16) := by
  subst o
  decide +kernel
theorem mf_dg {M : Int64} (o : M = Int64.ofNat 1085102592571150095) : bN M = dg 4 (fun i => if i % 2 = 0 then 2 ^ 4 - 1 else 0) (2 * 8) := by
  subst o
  decide +kernel
theorem bc_1 {a v1 v2 M a1 : Int64} {k : Int32} (o1 : v1 = ((a.toUInt64 >>> (k.toInt64.toUInt64 &&& Int64.toUInt64 63)).toInt64)) (hk : k.toInt = 1) (o2 : v2 = v1 &&& M) (oM : M = Int64.ofNat 6148914691236517205) (o3 : a1 = a - v2) : bN a1 = dg 2 (fun i => btN a (2 * i) + btN a (2 * i + 1)) (2 * 16) := by
  have e0 : bN a = dg 1 (btN a) (2 * 32) := v_dg
  have e1 : bN v1 = dg 1 (fun i => btN a (i + 1)) (2 * 32) := by
    rw [bN_shr (k := 1) o1 (by omega) (by decide), e0]
    exact dg_sh (n := 63) btN_1 (btN_64 (by decide))
  have e2 : bN v2 = dg 2 (fun i => btN a (2 * i + 1)) 32 := by
    rw [bN_and o2, e1, m5_dg oM]
    exact dg_mask (w := 1) (n := 32) (fun i _ => btN_1)
  have e4 : bN a = dg 2 (fun i => btN a (2 * i) + btN a (2 * i + 1)) 32 + bN v2 := by
    rw [e0, dg_two, e2, dg_add]
    refine dg_cg (fun i _ => ?_)
    show btN a (2 * i) + 2 ^ 1 * btN a (2 * i + 1) = btN a (2 * i) + btN a (2 * i + 1) + btN a (2 * i + 1)
    omega
  rw [bN_sub o3 (by omega), e4]
  exact Nat.add_sub_cancel _ _
theorem bc_2 {a b1 b2 s M M' a2 : Int64} {k : Int32} {p : Nat → Nat} (e : bN a = dg 2 p (2 * 16)) (hp : ∀ i, p i ≤ 2) (hz : ∀ i, 32 ≤ i → p i = 0) (o1 : b1 = a &&& M) (oM : M = Int64.ofNat 3689348814741910323) (o2 : s = ((a.toUInt64 >>> (k.toInt64.toUInt64 &&& Int64.toUInt64 63)).toInt64)) (hk : k.toInt = 2) (o3 : b2 = s &&& M') (oM' : M' = Int64.ofNat 3689348814741910323) (o4 : a2 = b1 + b2) : bN a2 = dg 4 (fun i => p (2 * i) + p (2 * i + 1)) (2 * 8) := by
  have e1 : bN b1 = dg 4 (fun i => p (2 * i)) 16 := by
    rw [bN_and o1, e, m3_dg oM]
    exact dg_mask (w := 2) (n := 16) (fun i _ => by have := hp i; omega)
  have e2 : bN s = dg 2 (fun i => p (i + 1)) (2 * 16) := by
    rw [bN_shr (k := 2) o2 (by omega) (by decide), e]
    exact dg_sh (n := 31) (by have := hp 0; omega) (hz 32 (by decide))
  have e3 : bN b2 = dg 4 (fun i => p (2 * i + 1)) 16 := by
    rw [bN_and o3, e2, m3_dg oM']
    exact dg_mask (w := 2) (n := 16) (fun i _ => by have := hp (i + 1); omega)
  have e5 : bN b1 + bN b2 = dg 4 (fun i => p (2 * i) + p (2 * i + 1)) 16 := by rw [e1, e3, dg_add]
  have l : dg 4 (fun i => p (2 * i) + p (2 * i + 1)) 16 < 2 ^ (4 * 16) := dg_lt (fun i _ => by have := hp (2 * i); have := hp (2 * i + 1); omega)
  rw [bN_add o4 (by rw [e5]; exact l), e5]
theorem bc_3 {a s c M a3 : Int64} {k : Int32} {q : Nat → Nat} (e : bN a = dg 4 q (2 * 8)) (hq : ∀ i, q i ≤ 4) (hz : ∀ i, 16 ≤ i → q i = 0) (o1 : s = ((a.toUInt64 >>> (k.toInt64.toUInt64 &&& Int64.toUInt64 63)).toInt64)) (hk : k.toInt = 4) (o2 : c = a + s) (o3 : a3 = c &&& M) (oM : M = Int64.ofNat 1085102592571150095) : bN a3 = dg 8 (fun i => q (2 * i) + q (2 * i + 1)) 8 := by
  have e2 : bN s = dg 4 (fun i => q (i + 1)) (2 * 8) := by
    rw [bN_shr (k := 4) o1 (by omega) (by decide), e]
    exact dg_sh (n := 15) (by have := hq 0; omega) (hz 16 (by decide))
  have e5 : bN a + bN s = dg 4 (fun i => q i + q (i + 1)) (2 * 8) := by rw [e, e2, dg_add]
  have hl : ∀ i, q i + q (i + 1) < 2 ^ 4 := fun i => by have := hq i; have := hq (i + 1); omega
  have l : dg 4 (fun i => q i + q (i + 1)) (2 * 8) < 2 ^ (4 * (2 * 8)) := dg_lt (fun i _ => hl i)
  have e6 : bN c = dg 4 (fun i => q i + q (i + 1)) (2 * 8) := by rw [bN_add o2 (by rw [e5]; exact l), e5]
  rw [bN_and o3, e6, mf_dg oM]
  exact dg_mask (w := 4) (n := 8) (fun i _ => hl i)
theorem dg_shk {w n : Nat} {f : Nat → Nat} (h : ∀ i, f i < 2 ^ w) (hz : ∀ i, n + 1 ≤ i → f i = 0) : ∀ k, dg w f (n + 1) / 2 ^ (w * k) = dg w (fun i => f (i + k)) (n + 1)
  | 0 => by
    rw [Nat.mul_zero, Nat.pow_zero, Nat.div_one]
    rfl
  | k + 1 => by
    rw [Nat.mul_succ, Nat.pow_add, ← Nat.div_div_eq_div_mul, dg_shk h hz k, dg_sh (f := fun i => f (i + k)) (h _) (hz _ (by omega))]
    refine dg_cg (fun i _ => ?_)
    show f (i + 1 + k) = f (i + (k + 1))
    rw [show i + 1 + k = i + (k + 1) by omega]
/-- a sum with what is moved -/
theorem bc_4 {a s a4 : Int64} {k : Int32} {m B : Nat} {r : Nat → Nat} (e : bN a = dg 8 r 8) (hr : ∀ i, r i ≤ B) (hB : B + B < 256) (hz : ∀ i, 8 ≤ i → r i = 0) (o1 : s = ((a.toUInt64 >>> (k.toInt64.toUInt64 &&& Int64.toUInt64 63)).toInt64)) (hk : k.toInt = ((8 * m : Nat) : Int)) (hm : 8 * m ≤ 63) (o2 : a4 = a + s) : bN a4 = dg 8 (fun i => r i + r (i + m)) 8 := by
  have e2 : bN s = dg 8 (fun i => r (i + m)) 8 := by
    rw [bN_shr (k := 8 * m) o1 hk hm, e]
    exact dg_shk (w := 8) (n := 7) (fun i => by have := hr i; omega) hz m
  have e5 : bN a + bN s = dg 8 (fun i => r i + r (i + m)) 8 := by rw [e, e2, dg_add]
  have l : dg 8 (fun i => r i + r (i + m)) 8 < 2 ^ (8 * 8) := dg_lt (fun i _ => by have := hr i; have := hr (i + m); omega)
  rw [bN_add o2 (by rw [e5]; exact l), e5]
theorem and_127 {x : Int64} {y b v : Int32} (o1 : y = x.toInt32) (hb : b.toInt = 127) (o2 : v = y &&& b) : v.toInt = ((bN x % 128 : Nat) : Int) := by
  have eb : b = 127 := Int32.toInt_inj.mp (by rw [hb]; rfl)
  have e : v.toBitVec.toNat = bN x % 128 := by
    rw [o2, eb, show (y &&& 127).toBitVec = y.toBitVec &&& (127 : Int32).toBitVec from Int32.toBitVec_and y 127, BitVec.toNat_and, o1]
    show (x.toInt32.toBitVec.toNat &&& 127) = _
    rw [show (127 : Nat) = 2 ^ 7 - 1 from rfl, Nat.and_two_pow_sub_one_eq_mod, show x.toInt32.toBitVec = x.toBitVec.signExtend 32 from rfl]
    rw [BitVec.signExtend_eq_setWidth_of_le _ (by decide), BitVec.toNat_setWidth]
    show bN x % 2 ^ 32 % 2 ^ 7 = bN x % 2 ^ 7
    omega
  show v.toBitVec.toInt = _
  rw [BitVec.toInt_eq_toNat_of_lt (by rw [e]; omega), e]
theorem bc_sum {x a : Int64} {r : Nat → Nat} (e : bN x = dg 8 r 8) (hr : r 0 = sm (btN a) 64) (hl : r 0 ≤ 64) : bN x % 128 = sm (btN a) 64 := by
  rw [e, dg_s, ← hr]
  omega
theorem cn_sm {v : Int64} : ∀ n, cnt (fun k => lbi v k = 1) n = (sm (btN v) n : Int)
  | 0 => rfl
  | n + 1 => by
    unfold cnt
    rw [cn_sm n]
    show _ = ((sm (btN v) n + btN v n : Nat) : Int)
    have := btN_l (v := v) (k := n)
    have b := lbi_b (v := v) (k := n)
    split <;> omega
/-- bitCount's end -/
theorem bc_end {a a3 s4 a4 s5 a5 s6 a6 : Int64} {k8 k16 k32 b y v : Int32} {t : Nat → Nat} (ht : ∀ i, t i = btN a i) (e : bN a3 = dg 8 (fun i => t (8 * i) + t (8 * i + 1) + (t (8 * i + 2) + t (8 * i + 3)) + (t (8 * i + 4) + t (8 * i + 5) + (t (8 * i + 6) + t (8 * i + 7)))) 8) (o4 : s4 = ((a3.toUInt64 >>> (k8.toInt64.toUInt64 &&& Int64.toUInt64 63)).toInt64)) (h8 : k8.toInt = 8) (p4 : a4 = a3 + s4) (o5 : s5 = ((a4.toUInt64 >>> (k16.toInt64.toUInt64 &&& Int64.toUInt64 63)).toInt64)) (h16 : k16.toInt = 16) (p5 : a5 = a4 + s5) (o6 : s6 = ((a5.toUInt64 >>> (k32.toInt64.toUInt64 &&& Int64.toUInt64 63)).toInt64)) (h32 : k32.toInt = 32) (p6 : a6 = a5 + s6) (oy : y = a6.toInt32) (hb : b.toInt = 127) (ov : v = y &&& b) : v.toInt = cnt (fun k => lbi a k = 1) 64 := by
  have t1 : ∀ i, t i ≤ 1 := fun i => by rw [ht]; have := btN_1 (v := a) (k := i); omega
  have t0 : ∀ i, 64 ≤ i → t i = 0 := fun i hi => by rw [ht]; exact btN_64 hi
  have e4 := bc_4 (m := 1) (B := 8) e (fun i => by have := t1 (8 * i); have := t1 (8 * i + 1); have := t1 (8 * i + 2); have := t1 (8 * i + 3); have := t1 (8 * i + 4); have := t1 (8 * i + 5); have := t1 (8 * i + 6); have := t1 (8 * i + 7); omega) (by decide) (fun i hi => by rw [t0 (8 * i) (by omega), t0 (8 * i + 1) (by omega), t0 (8 * i + 2) (by omega), t0 (8 * i + 3) (by omega), t0 (8 * i + 4) (by omega), t0 (8 * i + 5) (by omega), t0 (8 * i + 6) (by omega), t0 (8 * i + 7) (by omega)]) o4 h8 (by decide) p4
  obtain ⟨r, hr⟩ : ∃ r : Nat → Nat, r = fun i => t (8 * i) + t (8 * i + 1) + (t (8 * i + 2) + t (8 * i + 3)) + (t (8 * i + 4) + t (8 * i + 5) + (t (8 * i + 6) + t (8 * i + 7))) := ⟨_, rfl⟩
  have r8 : ∀ i, r i ≤ 8 := fun i => by rw [hr]; show t (8 * i) + t (8 * i + 1) + (t (8 * i + 2) + t (8 * i + 3)) + (t (8 * i + 4) + t (8 * i + 5) + (t (8 * i + 6) + t (8 * i + 7))) ≤ 8; have := t1 (8 * i); have := t1 (8 * i + 1); have := t1 (8 * i + 2); have := t1 (8 * i + 3); have := t1 (8 * i + 4); have := t1 (8 * i + 5); have := t1 (8 * i + 6); have := t1 (8 * i + 7); omega
  have r0 : ∀ i, 8 ≤ i → r i = 0 := fun i hi => by rw [hr]; show t (8 * i) + t (8 * i + 1) + (t (8 * i + 2) + t (8 * i + 3)) + (t (8 * i + 4) + t (8 * i + 5) + (t (8 * i + 6) + t (8 * i + 7))) = 0; rw [t0 (8 * i) (by omega), t0 (8 * i + 1) (by omega), t0 (8 * i + 2) (by omega), t0 (8 * i + 3) (by omega), t0 (8 * i + 4) (by omega), t0 (8 * i + 5) (by omega), t0 (8 * i + 6) (by omega), t0 (8 * i + 7) (by omega)]
  have e4' : bN a4 = dg 8 (fun i => r i + r (i + 1)) 8 := by rw [e4, hr]
  have e5 := bc_4 (m := 2) (B := 16) e4' (fun i => by have := r8 i; have := r8 (i + 1); omega) (by decide) (fun i hi => by rw [r0 i hi, r0 (i + 1) (by omega)]) o5 h16 (by decide) p5
  have e6 := bc_4 (m := 4) (B := 32) e5 (fun i => by have := r8 i; have := r8 (i + 1); have := r8 (i + 2); have := r8 (i + 2 + 1); omega) (by decide) (fun i hi => by rw [r0 i hi, r0 (i + 1) (by omega), r0 (i + 2) (by omega), r0 (i + 2 + 1) (by omega)]) o6 h32 (by decide) p6
  have es : r 0 + r 1 + (r 2 + r 3) + (r 4 + r 5 + (r 6 + r 7)) = sm (btN a) 64 := by
    have h1 : sm (btN a) 64 = sm t 64 := by congr 1; funext i; exact (ht i).symm
    have h2 : sm t 64 = sm r 8 := by
      rw [show (64 : Nat) = 2 * 32 from rfl, sm_two, show (32 : Nat) = 2 * 16 from rfl, sm_two, show (16 : Nat) = 2 * 8 from rfl, sm_two, hr]
      congr 1
      funext i
      show t (2 * (2 * (2 * i))) + t (2 * (2 * (2 * i)) + 1) + (t (2 * (2 * (2 * i) + 1)) + t (2 * (2 * (2 * i) + 1) + 1)) + (t (2 * (2 * (2 * i + 1))) + t (2 * (2 * (2 * i + 1)) + 1) + (t (2 * (2 * (2 * i + 1) + 1)) + t (2 * (2 * (2 * i + 1) + 1) + 1))) = _
      rw [show 2 * (2 * (2 * i)) = 8 * i by omega, show 2 * (2 * (2 * i) + 1) = 8 * i + 2 by omega, show 2 * (2 * (2 * i + 1)) = 8 * i + 4 by omega, show 2 * (2 * (2 * i + 1) + 1) = 8 * i + 6 by omega]
    rw [h1, h2]
    show _ = 0 + r 0 + r 1 + r 2 + r 3 + r 4 + r 5 + r 6 + r 7
    omega
  rw [and_127 oy hb ov, cn_sm, bc_sum e6 es (by
    show r 0 + r 1 + (r 2 + r 3) + (r 4 + r 5 + (r 6 + r 7)) ≤ 64
    have := r8 0; have := r8 1; have := r8 2; have := r8 3; have := r8 4; have := r8 5; have := r8 6; have := r8 7
    omega)]
theorem cnt_up {p : Nat → Prop} [DecidablePred p] {n : Nat} : ∀ {m : Nat}, (∀ k, n ≤ k → k < n + m → ¬ p k) → cnt p (n + m) = cnt p n
  | 0, _ => rfl
  | m + 1, h => by
    show cnt p (n + m) + (if p (n + m) then 1 else 0) = _
    rw [cnt_up (m := m) (fun k h1 h2 => h k h1 (by omega)), if_neg (h (n + m) (by omega) (by omega)), Int.add_zero]
/-- a set's number -/
theorem cn_set {v : Int64} {P : Nat → Prop} [DecidablePred P] (h : isS v P 40) : cnt (fun k => lbi v k = 1) 64 = cnt P 40 := by
  rw [show (64 : Nat) = 40 + 24 from rfl, cnt_up (fun k h1 h2 z => by
    have := (h k (by omega)).mp z
    omega)]
  exact cnt_cg (fun x hx => by rw [h x (by omega)]; exact ⟨fun z => z.2, fun z => ⟨hx, z⟩⟩)
