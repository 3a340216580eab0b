/-- the answer, by what is asked -/
def blA (H : mzH) (w v : Int) : Prop := ∃ o l, blB H (fZ H 25 2).toInt.toNat o l ∧ v = if w = 0 then o else l
