/-! WHAT IS KEPT OF BLAME IS LEFT AS IT IS -/
def kp54 (H B : mzH) : Prop := ∀ f, fZ B 54 f = fZ H 54 f
