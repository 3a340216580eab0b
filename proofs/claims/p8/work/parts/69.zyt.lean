/-! WHAT IS KEPT OF BLAME, OVER CALLS -/
/-- the course is right, what is kept of the one to blame, too -/
def cvB (H : mzH) : Prop := cvX H ∧ blK H H
