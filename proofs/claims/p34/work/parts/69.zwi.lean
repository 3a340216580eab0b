/-! LISTS THAT LEAVE OUT -/
/-- the verdict on the last of a list -/
def vrH (H : mzH) (hr : Nat → Int) (l : List Nat) : Int := match l.getLast? with
  | none => 0
  | some j => vdH H hr (rnH H hr l.dropLast) j
