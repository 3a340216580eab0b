/-! HOW MANY BITS -/
/-- a number by its digits of w bits -/
def dg (w : Nat) : (Nat → Nat) → Nat → Nat
  | _, 0 => 0
  | f, n + 1 => f 0 + 2 ^ w * dg w (fun i => f (i + 1)) n
def btN (v : Int64) (k : Nat) : Nat := if v.toBitVec.getLsbD k = true then 1 else 0
/-! the six steps, over Nat -/
def bN (v : Int64) : Nat := v.toBitVec.toNat
def sm (f : Nat → Nat) : Nat → Nat
  | 0 => 0
  | n + 1 => sm f n + f n
