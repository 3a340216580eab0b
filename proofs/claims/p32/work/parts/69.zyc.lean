/-! THE REFERENCE, MESSAGE BY MESSAGE -/
theorem kpM_d {H A B : mzH} (h : kpM H A) (k : kpM H B) : kpM A B := ⟨fun c hc i => (k.1 c hc i).trans (h.1 c hc i).symm, fun f hf => (k.2 f hf).trans (h.2 f hf).symm⟩
