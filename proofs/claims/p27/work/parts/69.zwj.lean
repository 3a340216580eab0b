/-! WHAT WOULD BE -/
/-- how many of the first p are refused -/
def rfH (H : mzH) (hr : Nat → Int) (od : Nat → Nat) (p : Nat) : Int := cnt (fun q => ¬ vdH H hr (rnH H hr (olF q od)) (od q) = 0) p
/-- where a thing is at the end, of other hours; or how many are refused -/
def otH (H : mzH) (hr : Nat → Int) (N : Nat) (n : Int) : Int := if n < 0 then rfH H hr (ordF hr N) N else whr (rnH H hr (olF N (ordF hr N))) n.toNat
theorem stH_kp {H A : mzH} (fr : kpX H A) {hr : Nat → Int} : stH A hr = stH H hr ∧ vdH A hr = vdH H hr := by
  have e3 := fr 3 (by decide)
  have r : ∀ j, roX A j 1 = roX H j 1 ∧ roX A j 2 = roX H j 2 ∧ roX A j 3 = roX H j 3 ∧ roX A j 4 = roX H j 4 := fun j => ⟨by show (aZ A 7 j).toInt = (aZ H 7 j).toInt; rw [(fr 7 (by decide)).2], by show (aZ A 8 j).toInt = (aZ H 8 j).toInt; rw [(fr 8 (by decide)).2], by show (aZ A 9 j).toInt = (aZ H 9 j).toInt; rw [(fr 9 (by decide)).2], by show (aZ A 10 j).toInt = (aZ H 10 j).toInt; rw [(fr 10 (by decide)).2]⟩
  constructor
  · funext s j
    unfold stH
    obtain ⟨r1, r2, r3, r4⟩ := r j
    rw [wyX_kp fr, e3.1, e3.1, r1, r2, r3, r4]
  · funext s j
    unfold vdH
    obtain ⟨r1, r2, r3, r4⟩ := r j
    rw [wyX_kp fr, e3.1, e3.1, r1, r2, r3]
theorem rnH_kp {H A : mzH} (fr : kpX H A) {hr : Nat → Int} : rnH A hr = rnH H hr := by
  funext l
  unfold rnH
  rw [(stH_kp fr).1]
/-- rows in order, told for other hours -/
def gdO (H : mzH) : Prop := ((0 ≤ (fZ H 51 2).toInt ∧ (fZ H 51 2).toInt ≤ 60) ∧ (fZ H 25 2).toInt = (fZ H 51 2).toInt) ∧ (∀ j : Nat, j < (fZ H 51 2).toInt.toNat → rwO 8 (roX H) (hoX H) j) ∧ ∀ j : Nat, j < (fZ H 51 2).toInt.toNat → 0 ≤ (aZ H 52 j).toInt ∧ (aZ H 52 j).toInt ≤ 999
