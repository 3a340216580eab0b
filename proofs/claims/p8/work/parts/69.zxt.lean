/-! LATE ONES -/
def lS (h : Nat → Int) (k : Nat) : Nat → Bool
  | 0 => false
  | j + 1 => lS h k j || decide (h k < h j)
def lC (h : Nat → Int) : Nat → Nat
  | 0 => 0
  | n + 1 => lC h n + (if lS h n n = true then 1 else 0)
def hX (H : mzH) (k : Nat) : Int := (aZ H 6 k).toInt
def hM (H : mzH) (k : Nat) : Int := (aZ H 2 (69 + 5 * k)).toInt
/-! WHAT message ANSWERS -/
/-- the answer to message(k, w), where there is one -/
def mgV (H : mzH) (k w v : Int) : Prop := (w = 0 ∧ v = (aZ H 6 k.toNat).toInt) ∨ (w = 1 ∧ v = (aZ H 7 k.toNat).toInt) ∨ (w = 2 ∧ v = (aZ H 8 k.toNat).toInt) ∨ (w = 3 ∧ v = (aZ H 9 k.toNat).toInt) ∨ (w = 4 ∧ v = (aZ H 42 k.toNat).toInt) ∨ (w = 5 ∧ 0 ≤ v ∧ v.toNat < (fZ H 25 2).toInt.toNat ∧ odX H v.toNat = k.toNat) ∨ (w = 6 ∧ ((v = 1 ∧ lS (hX H) k.toNat k.toNat = true) ∨ (v = 0 ∧ lS (hX H) k.toNat k.toNat = false)))
/-- what the law's own message answers, what it lays into out -/
def msX (H : mzH) (k w v : Int) (x : Int64) : Prop := (v = 1 ∧ ¬ (0 ≤ k ∧ k < (fZ H 3 9).toInt)) ∨ (v = 2 ∧ (0 ≤ k ∧ k < (fZ H 3 9).toInt) ∧ (w < 0 ∨ 6 < w)) ∨ (v = 0 ∧ (0 ≤ k ∧ k < (fZ H 3 9).toInt) ∧ (0 ≤ w ∧ w ≤ 6) ∧ ∃ r : Int32, x = r.toInt64 ∧ mgV H k w r.toInt)
