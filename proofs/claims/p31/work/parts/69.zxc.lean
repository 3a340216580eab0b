/-! THE STORY, STEP BY STEP -/
/-- the verdict on the message at a spot -/
def vdX (H : mzH) (p : Nat) : Int := obj (fX H p) (wyX H) (fZ H 3 10).toInt (fZ H 3 11).toInt (roX H (odX H p) 1) (roX H (odX H p) 2).toNat (roX H (odX H p) 3) (hoX H (odX H p))
