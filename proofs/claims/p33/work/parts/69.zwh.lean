/-! MESSAGES OF A LIST, RUN -/
/-- one message looked at, told for an hour -/
def stH (H : mzH) (hr : Nat → Int) (s : pS) (j : Nat) : pS := lkS s (wyX H) (fZ H 3 10).toInt (fZ H 3 11).toInt (roX H j 1) (roX H j 2).toNat (roX H j 3) (roX H j 4) (hr j)
def rnH (H : mzH) (hr : Nat → Int) (l : List Nat) : pS := l.foldl (stH H hr) s0X
/-- the verdict on a message behind a list -/
def vdH (H : mzH) (hr : Nat → Int) (s : pS) (j : Nat) : Int := obj s (wyX H) (fZ H 3 10).toInt (fZ H 3 11).toInt (roX H j 1) (roX H j 2).toNat (roX H j 3) (hr j)
/-- all rows are in order -/
def gdY (H : mzH) : Prop := ((0 ≤ (fZ H 25 2).toInt ∧ (fZ H 25 2).toInt ≤ 60) ∧ (fZ H 25 2).toInt = (fZ H 3 9).toInt ∧ (∀ i, aZ H 26 i = aZ H 6 i)) ∧ (∀ q, q < (fZ H 25 2).toInt.toNat → odX H q < (fZ H 25 2).toInt.toNat) ∧ ∀ j : Nat, j < (fZ H 25 2).toInt.toNat → rwO 8 (roX H) (hoX H) j
/-! the reference, of any order -/
/-- the book is the same, the hours are hours -/
def tkQ (H A : mzH) : Prop := kpM H A ∧ (∀ i, aZ A 2 i = aZ H 2 i) ∧ ∀ q : Nat, (q : Int) < (aZ H 2 2).toInt → 0 ≤ hoM A q ∧ hoM A q ≤ 999
