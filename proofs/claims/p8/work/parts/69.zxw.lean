/-- the course is right, nothing is kept of blame -/
def cvP (H : mzH) : Prop := cvX H ∧ (fZ H 54 5).toInt = 0 ∧ (fZ H 54 6).toInt = 0
