theorem wn_F {H B : mzH} {w a f : Nat} {v : Int32} {s : pS} (h : wdX H w s) (e : B = sF H a f v) : wdX B w s := fun n hn => by
  have k : ∀ c i, aZ B c i = aZ H c i := fun c i => by rw [e, aZ_sF]
  rw [k (w + 1) n, k (w + 2) n, k (w + 3) n, k (w + 4) n, k (w + 5) n, k (w + 6) n]
  exact h n hn
