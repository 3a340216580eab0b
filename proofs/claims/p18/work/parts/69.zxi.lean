theorem wdX_n {A B : mzH} {w lo hi : Nat} {s : pS} (h : wdX A w s) (k : kpN lo hi A B) (d : w + 6 < lo ∨ hi < w + 1) : wdX B w s := fun n hn => by
  obtain ⟨h1, h2, h3, h4, h5, h6, h7⟩ := h n hn
  exact ⟨by rw [(k (w + 1) (by omega)).2]; exact h1, by rw [(k (w + 2) (by omega)).2]; exact h2, by rw [(k (w + 3) (by omega)).2]; exact h3, by rw [(k (w + 4) (by omega)).2]; exact h4, by rw [(k (w + 5) (by omega)).2]; exact h5, by rw [(k (w + 6) (by omega)).2]; exact h6, h7⟩
