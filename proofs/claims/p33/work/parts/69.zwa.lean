/-! SETS AS LONGS -/
/-- a bit of a long -/
def lbi (v : Int64) (k : Nat) : Int := if v.toBitVec.getLsbD k = true then 1 else 0
/-- the first x things that are so -/
def isS (v : Int64) (P : Nat → Prop) (x : Nat) : Prop := ∀ k, k < 64 → (lbi v k = 1 ↔ (k < x ∧ P k))
/-- the i-th number of those that are so -/
def pkF (f : Nat → Int) : Nat → Nat → Int → Int
  | 0, _, _ => -2
  | u + 1, n, i => if f n = 1 then (if i = 0 then (n : Int) else pkF f u (n + 1) (i - 1)) else pkF f u (n + 1) i
