/-! LISTS THAT LEAVE OUT -/
/-- the verdict on the last of a list -/
def vrH (H : mzH) (hr : Nat → Int) (l : List Nat) : Int := match l.getLast? with
  | none => 0
  | some j => vdH H hr (rnH H hr l.dropLast) j
theorem gx_l3 {H A B : mzH} {s : pS} {w j : Nat} {k h : Int32} {hr : Nat → Int} (fr : kpX H A) (P : wdX B w (lkS s (wyX A) (fZ A 3 10).toInt (fZ A 3 11).toInt (aZ A 7 k.toInt.toNat).toInt (aZ A 8 k.toInt.toNat).toInt.toNat (aZ A 9 k.toInt.toNat).toInt (aZ A 10 k.toInt.toNat).toInt h.toInt)) (yk : k.toInt.toNat = j) (yh : h.toInt = hr j) : wdX B w (stH H hr s j) := by
  rw [wyX_kp fr, (fr 3 (by decide)).1, (fr 3 (by decide)).1, (fr 7 (by decide)).2, (fr 8 (by decide)).2, (fr 9 (by decide)).2, (fr 10 (by decide)).2, yh, yk] at P
  exact P
theorem gv_l3 {H A : mzH} {s : pS} {j : Nat} {k h : Int32} {v : Int} {hr : Nat → Int} (fr : kpX H A) (P : v = obj s (wyX A) (fZ A 3 10).toInt (fZ A 3 11).toInt (aZ A 7 k.toInt.toNat).toInt (aZ A 8 k.toInt.toNat).toInt.toNat (aZ A 9 k.toInt.toNat).toInt h.toInt) (yk : k.toInt.toNat = j) (yh : h.toInt = hr j) : v = vdH H hr s j := by
  rw [wyX_kp fr, (fr 3 (by decide)).1, (fr 3 (by decide)).1, (fr 7 (by decide)).2, (fr 8 (by decide)).2, (fr 9 (by decide)).2, yh, yk] at P
  exact P
theorem wd_rn {B H : mzH} {w : Nat} {hr : Nat → Int} {l l2 : List Nat} {j : Nat} (h : wdX B w (stH H hr (rnH H hr l) j)) (e : l2 = l ++ [j]) : wdX B w (rnH H hr l2) := by
  rw [e, rnH_s]
  exact h
