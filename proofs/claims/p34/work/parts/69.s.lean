def mS (H : mzH) (x0 x1 x2 x3 x4 x5 x6 : Int32) : mzH := (sF (sF (sF (sF (sF (sF (sF H 0 8 x0) 0 9 x1) 0 10 x2) 0 11 x3) 0 12 x4) 0 13 x5) 0 14 x6)
theorem mS_s8 {H : mzH} {x0 x1 x2 x3 x4 x5 x6 : Int32} {w : Int32} (_ : gI SM H) : sF (mS H x0 x1 x2 x3 x4 x5 x6) 0 8 w = mS H w x1 x2 x3 x4 x5 x6 := by
  unfold mS
  rw [sF_comm (f := 14) (g := 8) (by decide), sF_comm (f := 13) (g := 8) (by decide), sF_comm (f := 12) (g := 8) (by decide), sF_comm (f := 11) (g := 8) (by decide), sF_comm (f := 10) (g := 8) (by decide), sF_comm (f := 9) (g := 8) (by decide), sF_same]
theorem mS_g8 {H : mzH} {x0 x1 x2 x3 x4 x5 x6 : Int32} (hI : gI SM H) : x0 = fZ (mS H x0 x1 x2 x3 x4 x5 x6) 0 8 := by
  unfold mS
  rw [fZ_sF_ne (f := 14) (g := 8) (by decide), fZ_sF_ne (f := 13) (g := 8) (by decide), fZ_sF_ne (f := 12) (g := 8) (by decide), fZ_sF_ne (f := 11) (g := 8) (by decide), fZ_sF_ne (f := 10) (g := 8) (by decide), fZ_sF_ne (f := 9) (g := 8) (by decide), fZ_sF_ob (ob_of hI sm_0 (n := 45) (by decide)) (by decide)]
theorem mS_s9 {H : mzH} {x0 x1 x2 x3 x4 x5 x6 : Int32} {w : Int32} (_ : gI SM H) : sF (mS H x0 x1 x2 x3 x4 x5 x6) 0 9 w = mS H x0 w x2 x3 x4 x5 x6 := by
  unfold mS
  rw [sF_comm (f := 14) (g := 9) (by decide), sF_comm (f := 13) (g := 9) (by decide), sF_comm (f := 12) (g := 9) (by decide), sF_comm (f := 11) (g := 9) (by decide), sF_comm (f := 10) (g := 9) (by decide), sF_same]
theorem mS_g9 {H : mzH} {x0 x1 x2 x3 x4 x5 x6 : Int32} (hI : gI SM H) : x1 = fZ (mS H x0 x1 x2 x3 x4 x5 x6) 0 9 := by
  unfold mS
  rw [fZ_sF_ne (f := 14) (g := 9) (by decide), fZ_sF_ne (f := 13) (g := 9) (by decide), fZ_sF_ne (f := 12) (g := 9) (by decide), fZ_sF_ne (f := 11) (g := 9) (by decide), fZ_sF_ne (f := 10) (g := 9) (by decide), fZ_sF_ob (ob_sF (ob_of hI sm_0 (n := 45) (by decide))) (by decide)]
theorem mS_s10 {H : mzH} {x0 x1 x2 x3 x4 x5 x6 : Int32} {w : Int32} (_ : gI SM H) : sF (mS H x0 x1 x2 x3 x4 x5 x6) 0 10 w = mS H x0 x1 w x3 x4 x5 x6 := by
  unfold mS
  rw [sF_comm (f := 14) (g := 10) (by decide), sF_comm (f := 13) (g := 10) (by decide), sF_comm (f := 12) (g := 10) (by decide), sF_comm (f := 11) (g := 10) (by decide), sF_same]
theorem mS_g10 {H : mzH} {x0 x1 x2 x3 x4 x5 x6 : Int32} (hI : gI SM H) : x2 = fZ (mS H x0 x1 x2 x3 x4 x5 x6) 0 10 := by
  unfold mS
  rw [fZ_sF_ne (f := 14) (g := 10) (by decide), fZ_sF_ne (f := 13) (g := 10) (by decide), fZ_sF_ne (f := 12) (g := 10) (by decide), fZ_sF_ne (f := 11) (g := 10) (by decide), fZ_sF_ob (ob_sF (ob_sF (ob_of hI sm_0 (n := 45) (by decide)))) (by decide)]
theorem mS_s11 {H : mzH} {x0 x1 x2 x3 x4 x5 x6 : Int32} {w : Int32} (_ : gI SM H) : sF (mS H x0 x1 x2 x3 x4 x5 x6) 0 11 w = mS H x0 x1 x2 w x4 x5 x6 := by
  unfold mS
  rw [sF_comm (f := 14) (g := 11) (by decide), sF_comm (f := 13) (g := 11) (by decide), sF_comm (f := 12) (g := 11) (by decide), sF_same]
theorem mS_g11 {H : mzH} {x0 x1 x2 x3 x4 x5 x6 : Int32} (hI : gI SM H) : x3 = fZ (mS H x0 x1 x2 x3 x4 x5 x6) 0 11 := by
  unfold mS
  rw [fZ_sF_ne (f := 14) (g := 11) (by decide), fZ_sF_ne (f := 13) (g := 11) (by decide), fZ_sF_ne (f := 12) (g := 11) (by decide), fZ_sF_ob (ob_sF (ob_sF (ob_sF (ob_of hI sm_0 (n := 45) (by decide))))) (by decide)]
theorem mS_s12 {H : mzH} {x0 x1 x2 x3 x4 x5 x6 : Int32} {w : Int32} (_ : gI SM H) : sF (mS H x0 x1 x2 x3 x4 x5 x6) 0 12 w = mS H x0 x1 x2 x3 w x5 x6 := by
  unfold mS
  rw [sF_comm (f := 14) (g := 12) (by decide), sF_comm (f := 13) (g := 12) (by decide), sF_same]
theorem mS_g12 {H : mzH} {x0 x1 x2 x3 x4 x5 x6 : Int32} (hI : gI SM H) : x4 = fZ (mS H x0 x1 x2 x3 x4 x5 x6) 0 12 := by
  unfold mS
  rw [fZ_sF_ne (f := 14) (g := 12) (by decide), fZ_sF_ne (f := 13) (g := 12) (by decide), fZ_sF_ob (ob_sF (ob_sF (ob_sF (ob_sF (ob_of hI sm_0 (n := 45) (by decide)))))) (by decide)]
theorem mS_s13 {H : mzH} {x0 x1 x2 x3 x4 x5 x6 : Int32} {w : Int32} (_ : gI SM H) : sF (mS H x0 x1 x2 x3 x4 x5 x6) 0 13 w = mS H x0 x1 x2 x3 x4 w x6 := by
  unfold mS
  rw [sF_comm (f := 14) (g := 13) (by decide), sF_same]
theorem mS_g13 {H : mzH} {x0 x1 x2 x3 x4 x5 x6 : Int32} (hI : gI SM H) : x5 = fZ (mS H x0 x1 x2 x3 x4 x5 x6) 0 13 := by
  unfold mS
  rw [fZ_sF_ne (f := 14) (g := 13) (by decide), fZ_sF_ob (ob_sF (ob_sF (ob_sF (ob_sF (ob_sF (ob_of hI sm_0 (n := 45) (by decide))))))) (by decide)]
theorem mS_s14 {H : mzH} {x0 x1 x2 x3 x4 x5 x6 : Int32} {w : Int32} (_ : gI SM H) : sF (mS H x0 x1 x2 x3 x4 x5 x6) 0 14 w = mS H x0 x1 x2 x3 x4 x5 w := by
  unfold mS
  rw [sF_same]
theorem mS_g14 {H : mzH} {x0 x1 x2 x3 x4 x5 x6 : Int32} (hI : gI SM H) : x6 = fZ (mS H x0 x1 x2 x3 x4 x5 x6) 0 14 := by
  unfold mS
  rw [fZ_sF_ob (ob_sF (ob_sF (ob_sF (ob_sF (ob_sF (ob_sF (ob_of hI sm_0 (n := 45) (by decide)))))))) (by decide)]
theorem mS_I {H : mzH} {x0 x1 x2 x3 x4 x5 x6 : Int32} (hI : gI SM H) (h0 : 0 ≤ x0.toInt ∧ x0.toInt ≤ 900) (h1 : 0 ≤ x1.toInt ∧ x1.toInt ≤ 900) (h2 : 0 ≤ x2.toInt ∧ x2.toInt ≤ 4) : gI SM (mS H x0 x1 x2 x3 x4 x5 x6) := (gI_sF (gI_sF (gI_sF (gI_sF (gI_sF (gI_sF (gI_sF hI sm_0 rfl h0) sm_0 rfl h1) sm_0 rfl h2) sm_0 rfl (gz_any _)) sm_0 rfl (gz_any _)) sm_0 rfl (gz_any _)) sm_0 rfl (gz_any _))
theorem mS_J {H : mzH} {x0 x1 x2 x3 x4 x5 x6 : Int32} (hJ : JN H) : JN (mS H x0 x1 x2 x3 x4 x5 x6) := (JN_sF rfl (JN_sF rfl (JN_sF rfl (JN_sF rfl (JN_sF rfl (JN_sF rfl (JN_sF rfl hJ)))))))
theorem mS_o {H : mzH} {x0 x1 x2 x3 x4 x5 x6 : Int32} {c f : Nat} (h : c ≠ 0 ∨ (f ≠ 8 ∧ f ≠ 9 ∧ f ≠ 10 ∧ f ≠ 11 ∧ f ≠ 12 ∧ f ≠ 13 ∧ f ≠ 14)) : fZ H c f = fZ (mS H x0 x1 x2 x3 x4 x5 x6) c f := by
  unfold mS
  rcases h with h | h
  · rw [fZ_sF_nc (Ne.symm h), fZ_sF_nc (Ne.symm h), fZ_sF_nc (Ne.symm h), fZ_sF_nc (Ne.symm h), fZ_sF_nc (Ne.symm h), fZ_sF_nc (Ne.symm h), fZ_sF_nc (Ne.symm h)]
  · if hc : c = 0 then
      subst hc
      rw [fZ_sF_ne (f := 14) (by first | with_reducible assumption | omega), fZ_sF_ne (f := 13) (by first | with_reducible assumption | omega), fZ_sF_ne (f := 12) (by first | with_reducible assumption | omega), fZ_sF_ne (f := 11) (by first | with_reducible assumption | omega), fZ_sF_ne (f := 10) (by first | with_reducible assumption | omega), fZ_sF_ne (f := 9) (by first | with_reducible assumption | omega), fZ_sF_ne (f := 8) (by first | with_reducible assumption | omega)]
    else rw [fZ_sF_nc (Ne.symm hc), fZ_sF_nc (Ne.symm hc), fZ_sF_nc (Ne.symm hc), fZ_sF_nc (Ne.symm hc), fZ_sF_nc (Ne.symm hc), fZ_sF_nc (Ne.symm hc), fZ_sF_nc (Ne.symm hc)]
theorem mS_a {H : mzH} {x0 x1 x2 x3 x4 x5 x6 : Int32} {c i : Nat} : aZ (mS H x0 x1 x2 x3 x4 x5 x6) c i = aZ H c i := by
  unfold mS
  rw [aZ_sF, aZ_sF, aZ_sF, aZ_sF, aZ_sF, aZ_sF, aZ_sF]
theorem mS_cA {H : mzH} {x0 x1 x2 x3 x4 x5 x6 : Int32} {c i : Nat} {w : Int32} : sA (mS H x0 x1 x2 x3 x4 x5 x6) c i w = mS (sA H c i w) x0 x1 x2 x3 x4 x5 x6 := by
  unfold mS
  rw [sA_sF, sA_sF, sA_sF, sA_sF, sA_sF, sA_sF, sA_sF]
theorem mS_cF {H : mzH} {x0 x1 x2 x3 x4 x5 x6 : Int32} {c f : Nat} {w : Int32} (h : c ≠ 0 ∨ (f ≠ 8 ∧ f ≠ 9 ∧ f ≠ 10 ∧ f ≠ 11 ∧ f ≠ 12 ∧ f ≠ 13 ∧ f ≠ 14)) : sF (mS H x0 x1 x2 x3 x4 x5 x6) c f w = mS (sF H c f w) x0 x1 x2 x3 x4 x5 x6 := by
  unfold mS
  rcases h with h | h
  · rw [sF_cm2 (a := 0) (b := c) (f := 14) (Ne.symm h), sF_cm2 (a := 0) (b := c) (f := 13) (Ne.symm h), sF_cm2 (a := 0) (b := c) (f := 12) (Ne.symm h), sF_cm2 (a := 0) (b := c) (f := 11) (Ne.symm h), sF_cm2 (a := 0) (b := c) (f := 10) (Ne.symm h), sF_cm2 (a := 0) (b := c) (f := 9) (Ne.symm h), sF_cm2 (a := 0) (b := c) (f := 8) (Ne.symm h)]
  · if hc : c = 0 then
      subst hc
      rw [sF_comm (f := 14) (g := f) (by first | with_reducible assumption | omega), sF_comm (f := 13) (g := f) (by first | with_reducible assumption | omega), sF_comm (f := 12) (g := f) (by first | with_reducible assumption | omega), sF_comm (f := 11) (g := f) (by first | with_reducible assumption | omega), sF_comm (f := 10) (g := f) (by first | with_reducible assumption | omega), sF_comm (f := 9) (g := f) (by first | with_reducible assumption | omega), sF_comm (f := 8) (g := f) (by first | with_reducible assumption | omega)]
    else rw [sF_cm2 (a := 0) (b := c) (f := 14) (Ne.symm hc), sF_cm2 (a := 0) (b := c) (f := 13) (Ne.symm hc), sF_cm2 (a := 0) (b := c) (f := 12) (Ne.symm hc), sF_cm2 (a := 0) (b := c) (f := 11) (Ne.symm hc), sF_cm2 (a := 0) (b := c) (f := 10) (Ne.symm hc), sF_cm2 (a := 0) (b := c) (f := 9) (Ne.symm hc), sF_cm2 (a := 0) (b := c) (f := 8) (Ne.symm hc)]
/-- the reference's bytes -/
def bM (H : mzH) (k : Nat) : Int := (aZ H 1 k).toInt
/-! the reference's WORDS, sign by sign -/
def wmC (i : Nat) : Int := (sCh 1 i).toInt
def wmS : List Nat := [0, 5, 10, 14, 19, 24, 29, 34, 39, 44, 48, 53, 59, 64, 69, 72, 77, 84, 91]
def wmL : List Nat := [4, 4, 3, 4, 4, 4, 4, 4, 4, 3, 4, 5, 4, 4, 2, 4, 6, 6]
set_option maxRecDepth 100000 in
theorem wm_tb : ∀ n, n < 18 → (wmS.getD (n + 1) 0 = wmS.getD n 0 + wmL.getD n 0 + 1 ∧ wmC (wmS.getD n 0 + wmL.getD n 0) = 32 ∧ wmS.getD n 0 + wmL.getD n 0 ≤ 90 ∧ cM.getD n 0 = wv wmC (wmS.getD n 0) (wmL.getD n 0)) := by decide +kernel
set_option maxRecDepth 100000 in
theorem wm_lt : ∀ n, n < 18 → ∀ i, i < wmL.getD n 0 → (97 ≤ wmC (wmS.getD n 0 + i) ∧ wmC (wmS.getD n 0 + i) ≤ 122) := by decide +kernel
theorem wm_18 : wmS.getD 18 0 = 91 := by decide
theorem wm_mono : ∀ n, n < 18 → wmS.getD n 0 ≤ 90 := fun n h => by have := (wm_tb n h).2.2.1; omega
def wmI (b : Nat → Int) (s l : Nat) (n k : Int) : Prop := 0 ≤ n ∧ n ≤ 18 ∧ 0 ≤ k ∧ k.toNat = wmS.getD n.toNat 0 ∧ ∀ j : Nat, (j : Int) < n → wv b s l ≠ cM.getD j 0
def wmJ (b : Nat → Int) (s l : Nat) (n k i : Int) : Prop := 0 ≤ i ∧ i.toNat ≤ wmL.getD n.toNat 0 ∧ i.toNat ≤ l ∧ ∀ q, q < i.toNat → b (s + q) = wmC (k.toNat + q)
def wmK (n k0 k : Int) : Prop := k0 ≤ k ∧ k.toNat ≤ k0.toNat + wmL.getD n.toNat 0
theorem wm_0 {b : Nat → Int} {s l : Nat} {n k : Int} (hn : n = 0) (hk : k = 0) : wmI b s l n k := by
  subst hn hk
  exact ⟨by omega, by omega, by omega, rfl, fun j hj => by omega⟩
theorem wm_n {b : Nat → Int} {s l : Nat} {n k : Int} (h : wmI b s l n k) (hk : k ≤ 90) : n < 18 := by
  obtain ⟨h1, h2, h3, h4, -⟩ := h
  if e : n = 18 then
    subst e
    have := wm_18
    rw [show (18 : Int).toNat = 18 from rfl] at h4
    omega
  else omega
theorem wm_le {b : Nat → Int} {s l : Nat} {n k : Int} (h : wmI b s l n k) (hk : k ≤ 90) : n < 18 ∧ k.toNat + wmL.getD n.toNat 0 ≤ 90 ∧ 0 ≤ k := by
  have h0 := wm_n h hk
  have := (wm_tb n.toNat (by have := h.1; omega)).2.2.1
  rw [← h.2.2.2.1] at this
  exact ⟨h0, this, h.2.2.1⟩
theorem wj_0 {b : Nat → Int} {s l : Nat} {n k i : Int} (hi : i = 0) : wmJ b s l n k i := by
  subst hi
  exact ⟨by omega, Nat.zero_le _, Nat.zero_le _, fun q hq => absurd hq (Nat.not_lt_zero _)⟩
theorem wm_90 {b : Nat → Int} {s l : Nat} {n k i : Int} (h : wmI b s l n k) (hk : k ≤ 90) (hj : wmJ b s l n k i) : k + i ≤ 90 := by
  have := wm_le h hk
  have := hj.2.1
  omega
/-- a blank is the word's end -/
theorem wm_sp {b : Nat → Int} {s l : Nat} {n k : Int} {i : Nat} (h : wmI b s l n k) (hk : k ≤ 90) (hi : i ≤ wmL.getD n.toNat 0) : (wmC (k.toNat + i) = 32 ↔ i = wmL.getD n.toNat 0) := by
  have h0 := wm_n h hk
  have hn : n.toNat < 18 := by have := h.1; omega
  have e := h.2.2.2.1
  rw [e]
  refine ⟨fun c => ?_, fun c => ?_⟩
  · if q : i < wmL.getD n.toNat 0 then
      have := wm_lt n.toNat hn i q
      omega
    else omega
  · rw [c]
    exact (wm_tb n.toNat hn).2.1
theorem wj_st {b : Nat → Int} {s l : Nat} {n k i i' : Int} (h : wmI b s l n k) (hj : wmJ b s l n k i) (hk : k ≤ 90) (hi : i' = i + 1) (hl : i.toNat < l) (hc : ¬ wmC (k.toNat + i.toNat) = 32) (he : b (s + i.toNat) = wmC (k.toNat + i.toNat)) : wmJ b s l n k i' := by
  obtain ⟨a1, a2, a3, a4⟩ := hj
  have hs := wm_sp h hk a2
  refine ⟨by omega, by omega, by omega, fun q hq => ?_⟩
  if e : q = i.toNat then
    rw [e]
    exact he
  else exact a4 q (by first | with_reducible assumption | omega)
/-- the word is another -/
theorem wm_no {b : Nat → Int} {s e : Nat} {n k i : Int} (h : wmI b s (e - s) n k) (hk : k ≤ 90) (hj : wmJ b s (e - s) n k i) (hr : rnI bL b s e) (hx : (wmC (k.toNat + i.toNat) = 32 ∧ i.toNat ≠ e - s) ∨ (¬ wmC (k.toNat + i.toNat) = 32 ∧ (e - s ≤ i.toNat ∨ (i.toNat < e - s ∧ b (s + i.toNat) ≠ wmC (k.toNat + i.toNat))))) : wv b s (e - s) ≠ cM.getD n.toNat 0 := by
  have h0 := wm_n h hk
  have hn : n.toNat < 18 := by have := h.1; omega
  obtain ⟨a1, a2, a3, a4⟩ := hj
  have hs := wm_sp h hk a2
  intro hv
  rw [(wm_tb n.toNat hn).2.2.2] at hv
  obtain ⟨e1, e2⟩ := wv_inj (fun q hq => hr.2 _ (by first | with_reducible assumption | omega) (by first | with_reducible assumption | omega)) (fun q hq => wm_lt n.toNat hn q hq) hv
  have ek := h.2.2.2.1
  rcases hx with ⟨c1, c2⟩ | ⟨c1, c2⟩
  · have := hs.1 c1
    omega
  · rcases c2 with c | ⟨c, d⟩
    · have : i.toNat = wmL.getD n.toNat 0 := by omega
      exact c1 (hs.2 this)
    · have := e2 i.toNat (by first | with_reducible assumption | omega)
      rw [← ek] at this
      exact d this
theorem wm_hit {b : Nat → Int} {s l : Nat} {n k i : Int} (h : wmI b s l n k) (hk : k ≤ 90) (hj : wmJ b s l n k i) (hc : wmC (k.toNat + i.toNat) = 32) (hl : i.toNat = l) : kwM n (wv b s l) := by
  have h0 := wm_n h hk
  have hn : n.toNat < 18 := by have := h.1; omega
  obtain ⟨a1, a2, a3, a4⟩ := hj
  have hs := (wm_sp h hk a2).1 hc
  refine Or.inr ⟨h.1, h0, ?_⟩
  rw [(wm_tb n.toNat hn).2.2.2, ← hs, hl, ← h.2.2.2.1]
  exact wv_cg (fun q hq => a4 q (by first | with_reducible assumption | omega))
theorem wm_end {b : Nat → Int} {s l : Nat} {n k v : Int} (h : wmI b s l n k) (hk : 91 ≤ k) (hv : v = -1) : kwM v (wv b s l) := by
  obtain ⟨h1, h2, h3, h4, h5⟩ := h
  if e : n.toNat < 18 then
    have := wm_mono n.toNat e
    omega
  else exact Or.inl ⟨hv, fun j hj => h5 j (by first | with_reducible assumption | omega)⟩
theorem wk_0 {n k k0 : Int} (h : k = k0) : wmK n k0 k := ⟨by omega, by omega⟩
theorem wk_st {b : Nat → Int} {s l : Nat} {n k0 k k' : Int} (h : wmI b s l n k0) (hk : k0 ≤ 90) (hj : wmK n k0 k) (hc : ¬ wmC k.toNat = 32) (he : k' = k + 1) : wmK n k0 k' := by
  obtain ⟨a1, a2⟩ := hj
  have h3 := h.2.2.1
  have hs := wm_sp (i := k.toNat - k0.toNat) h hk (by first | with_reducible assumption | omega)
  rw [show k0.toNat + (k.toNat - k0.toNat) = k.toNat by omega] at hs
  refine ⟨by omega, ?_⟩
  have : k.toNat - k0.toNat ≠ wmL.getD n.toNat 0 := fun c => hc (hs.2 c)
  omega
theorem wm_st {b : Nat → Int} {s l : Nat} {n k0 k n' k' : Int} (h : wmI b s l n k0) (hk : k0 ≤ 90) (hj : wmK n k0 k) (hv : wv b s l ≠ cM.getD n.toNat 0) (hc : wmC k.toNat = 32) (he : k' = k + 1) (hn' : n' = n + 1) : wmI b s l n' k' := by
  obtain ⟨a1, a2⟩ := hj
  have h0 := wm_n h hk
  obtain ⟨h1, h2, h3, h4, h5⟩ := id h
  have hs := wm_sp (i := k.toNat - k0.toNat) h hk (by first | with_reducible assumption | omega)
  rw [show k0.toNat + (k.toNat - k0.toNat) = k.toNat by omega] at hs
  have e := hs.1 hc
  have ht := (wm_tb n.toNat (by first | with_reducible assumption | omega)).1
  refine ⟨by omega, by omega, by omega, ?_, fun j hj => ?_⟩
  · rw [show n'.toNat = n.toNat + 1 by omega, ht]
    omega
  · if q : j = n.toNat then
      rw [q]
      exact hv
    else exact h5 j (by first | with_reducible assumption | omega)
set_option maxRecDepth 4000 in
set_option maxHeartbeats 4000000 in
/-- M.here, exactly -/
theorem f_156 (H : mzH) (hI : gI SM H) (hJ : JN H) (x0 x1 x2 x3 x4 x5 x6 : Int32) (hx0 : 0 ≤ x0.toInt ∧ x0.toInt ≤ 900) (hx1 : 0 ≤ x1.toInt ∧ x1.toInt ≤ 900) (hx2 : 0 ≤ x2.toInt ∧ x2.toInt ≤ 4) : gCall 156 [.ref 0] (mS H x0 x1 x2 x3 x4 x5 x6) (gRi (fun v H' => H' = mS H x0 x1 x2 x3 x4 x5 x6 ∧ (-1 ≤ v.toInt ∧ v.toInt ≤ 255) ∧ ((v.toInt = -1 ∧ (fZ H 0 7).toInt ≤ x0.toInt) ∨ (x0.toInt < (fZ H 0 7).toInt ∧ v.toInt = bM H x0.toInt.toNat ∧ 0 ≤ v.toInt)))) := by
  have w0_7 : 0 ≤ (fZ H 0 7).toInt ∧ (fZ H 0 7).toInt ≤ 900 := fZ_of hI sm_0 rfl
  refine gG_call [(0, .ref 0)] ⟨rfl, trivial⟩ ?_
  show gG 1 zB_156 (mzBlk zB_156 0) [(0, .ref 0)] [] (mS H x0 x1 x2 x3 x4 x5 x6) 0 0 _
  refine g_aload_n rfl ?_
  refine g_gfk (mS_I hI (by first | with_reducible assumption | omega) (by first | with_reducible assumption | omega) (by first | with_reducible assumption | omega)) sm_0 rfl (mS_g8 hI) ?_
  refine g_aload_n rfl ?_
  refine g_gfk (mS_I hI (by first | with_reducible assumption | omega) (by first | with_reducible assumption | omega) (by first | with_reducible assumption | omega)) sm_0 rfl (mS_o (by decide)) ?_
  refine g_if2_ge (fun c13 => ?_) (fun c13 => ?_)
  · refine g_iconst (by decide) (fun v14 kv14 => ?_)
    refine g_nop ?_
    exact g_iret ⟨_, rfl, rfl, (by first | with_reducible assumption | omega), (by first | with_reducible assumption | omega)⟩
  · refine g_aload_n rfl ?_
    refine g_gfr (mS_I hI (by first | with_reducible assumption | omega) (by first | with_reducible assumption | omega) (by first | with_reducible assumption | omega)) sm_0 rfl ?_
    refine g_aload_n rfl ?_
    refine g_gfk (mS_I hI (by first | with_reducible assumption | omega) (by first | with_reducible assumption | omega) (by first | with_reducible assumption | omega)) sm_0 rfl (mS_g8 hI) ?_
    refine g_iaload (mS_I hI (by first | with_reducible assumption | omega) (by first | with_reducible assumption | omega) (by first | with_reducible assumption | omega)) sm_1 rfl (by first | with_reducible assumption | omega) (fun v15 ev15 lv15 uv15 => ?_)
    have dv15 : v15 = aZ H 1 x0.toInt.toNat := ev15.trans mS_a
    have tv15 : v15.toInt = (aZ H 1 x0.toInt.toNat).toInt := by rw [dv15]
    have sv15 : v15.toInt = bM H x0.toInt.toNat := tv15
    refine g_goto ?_
    exact g_iret ⟨_, rfl, rfl, (by first | with_reducible assumption | omega), (by first | with_reducible assumption | omega)⟩
set_option maxRecDepth 4000 in
set_option maxHeartbeats 4000000 in
/-- M.isSmall, exactly -/
theorem f_157 (a0 : Int32) (H : mzH) (hI : gI SM H) (hJ : JN H) (x0 x1 x2 x3 x4 x5 x6 : Int32) (hx0 : 0 ≤ x0.toInt ∧ x0.toInt ≤ 900) (hx1 : 0 ≤ x1.toInt ∧ x1.toInt ≤ 900) (hx2 : 0 ≤ x2.toInt ∧ x2.toInt ≤ 4) : gCall 157 [.int a0] (mS H x0 x1 x2 x3 x4 x5 x6) (gRi (fun v H' => H' = mS H x0 x1 x2 x3 x4 x5 x6 ∧ (0 ≤ v.toInt ∧ v.toInt ≤ 1) ∧ (¬ v.toInt = 0 ↔ (97 ≤ a0.toInt ∧ a0.toInt ≤ 122)))) := by
  refine gG_call [(0, .int a0)] ⟨rfl, trivial⟩ ?_
  show gG 1 zB_157 (mzBlk zB_157 0) [(0, .int a0)] [] (mS H x0 x1 x2 x3 x4 x5 x6) 0 0 _
  refine g_iload_n rfl ?_
  refine g_bipush (by decide) (fun v29 kv29 => ?_)
  refine g_if2_lt (fun c30 => ?_) (fun c30 => ?_)
  · refine g_iconst (by decide) (fun v31 kv31 => ?_)
    refine g_nop ?_
    exact g_zret (by first | with_reducible assumption | omega) ⟨_, rfl, rfl, (by first | with_reducible assumption | omega), (by first | with_reducible assumption | omega)⟩
  · refine g_iload_n rfl ?_
    refine g_bipush (by decide) (fun v32 kv32 => ?_)
    refine g_if2_gt (fun c33 => ?_) (fun c33 => ?_)
    · refine g_iconst (by decide) (fun v34 kv34 => ?_)
      refine g_nop ?_
      exact g_zret (by first | with_reducible assumption | omega) ⟨_, rfl, rfl, (by first | with_reducible assumption | omega), (by first | with_reducible assumption | omega)⟩
    · refine g_iconst (by decide) (fun v35 kv35 => ?_)
      refine g_goto ?_
      exact g_zret (by first | with_reducible assumption | omega) ⟨_, rfl, rfl, (by first | with_reducible assumption | omega), (by first | with_reducible assumption | omega)⟩
set_option maxRecDepth 4000 in
set_option maxHeartbeats 4000000 in
/-- M.isDigit, exactly -/
theorem f_158 (a0 : Int32) (H : mzH) (hI : gI SM H) (hJ : JN H) (x0 x1 x2 x3 x4 x5 x6 : Int32) (hx0 : 0 ≤ x0.toInt ∧ x0.toInt ≤ 900) (hx1 : 0 ≤ x1.toInt ∧ x1.toInt ≤ 900) (hx2 : 0 ≤ x2.toInt ∧ x2.toInt ≤ 4) : gCall 158 [.int a0] (mS H x0 x1 x2 x3 x4 x5 x6) (gRi (fun v H' => H' = mS H x0 x1 x2 x3 x4 x5 x6 ∧ (0 ≤ v.toInt ∧ v.toInt ≤ 1) ∧ (¬ v.toInt = 0 ↔ (48 ≤ a0.toInt ∧ a0.toInt ≤ 57)))) := by
  refine gG_call [(0, .int a0)] ⟨rfl, trivial⟩ ?_
  show gG 1 zB_158 (mzBlk zB_158 0) [(0, .int a0)] [] (mS H x0 x1 x2 x3 x4 x5 x6) 0 0 _
  refine g_iload_n rfl ?_
  refine g_bipush (by decide) (fun v29 kv29 => ?_)
  refine g_if2_lt (fun c30 => ?_) (fun c30 => ?_)
  · refine g_iconst (by decide) (fun v31 kv31 => ?_)
    refine g_nop ?_
    exact g_zret (by first | with_reducible assumption | omega) ⟨_, rfl, rfl, (by first | with_reducible assumption | omega), (by first | with_reducible assumption | omega)⟩
  · refine g_iload_n rfl ?_
    refine g_bipush (by decide) (fun v32 kv32 => ?_)
    refine g_if2_gt (fun c33 => ?_) (fun c33 => ?_)
    · refine g_iconst (by decide) (fun v34 kv34 => ?_)
      refine g_nop ?_
      exact g_zret (by first | with_reducible assumption | omega) ⟨_, rfl, rfl, (by first | with_reducible assumption | omega), (by first | with_reducible assumption | omega)⟩
    · refine g_iconst (by decide) (fun v35 kv35 => ?_)
      refine g_goto ?_
      exact g_zret (by first | with_reducible assumption | omega) ⟨_, rfl, rfl, (by first | with_reducible assumption | omega), (by first | with_reducible assumption | omega)⟩
set_option maxRecDepth 4000 in
set_option maxHeartbeats 4000000 in
/-- M.wordHere, exactly -/
theorem f_160 (H : mzH) (hI : gI SM H) (hJ : JN H) (x0 x1 x2 x3 x4 x5 x6 : Int32) (hx0 : 0 ≤ x0.toInt ∧ x0.toInt ≤ 900) (hx1 : 0 ≤ x1.toInt ∧ x1.toInt ≤ 900) (hx2 : 0 ≤ x2.toInt ∧ x2.toInt ≤ 4) (hp0 : rnI bL (bM H) x1.toInt.toNat x0.toInt.toNat) (hp1 : x1.toInt ≤ x0.toInt) : gCall 160 [.ref 0] (mS H x0 x1 x2 x3 x4 x5 x6) (gRi (fun v H' => H' = mS H x0 x1 x2 x3 x4 x5 x6 ∧ (-1 ≤ v.toInt ∧ v.toInt ≤ 17) ∧ kwM v.toInt (wv (bM H) x1.toInt.toNat (x0.toInt.toNat - x1.toInt.toNat)))) := by
  refine gG_call [(0, .ref 0)] ⟨rfl, trivial⟩ ?_
  show gG 4 zB_160 (mzBlk zB_160 0) [(0, .ref 0)] [] (mS H x0 x1 x2 x3 x4 x5 x6) 0 0 _
  refine g_iconst (by decide) (fun v1024 kv1024 => ?_)
  refine g_istore_n (l' := [(0, .ref 0), (1, .int v1024)]) rfl rfl ?_
  refine g_iconst (by decide) (fun v1025 kv1025 => ?_)
  refine g_istore_n (l' := [(0, .ref 0), (1, .int v1024), (2, .int v1025)]) rfl rfl ?_
  refine g_nop ?_
  have L1028 : ∀ (N : Nat) (v1026 : Int32) (v1027 : Int32), (0 ≤ v1026.toInt ∧ v1026.toInt ≤ 18) → (0 ≤ v1027.toInt ∧ v1027.toInt ≤ 91) → wmI (bM H) x1.toInt.toNat (x0.toInt.toNat - x1.toInt.toNat) v1026.toInt v1027.toInt → (91 - v1027.toInt).toNat < N → gG 4 zB_160 (mzBlk zB_160 1) [(0, .ref 0), (1, .int v1026), (2, .int v1027)] [] (mS H x0 x1 x2 x3 x4 x5 x6) 0 0 (gRi (fun v H' => H' = mS H x0 x1 x2 x3 x4 x5 x6 ∧ (-1 ≤ v.toInt ∧ v.toInt ≤ 17) ∧ kwM v.toInt (wv (bM H) x1.toInt.toNat (x0.toInt.toNat - x1.toInt.toNat)))) := by
    intro N
    induction N with
    | zero => intro v1026 v1027 bv1026 bv1027 q1 hmL1028; exact absurd hmL1028 (Nat.not_lt_zero _)
    | succ N ihL1028 =>
      intro v1026 v1027 bv1026 bv1027 q1 hmL1028
      refine g_iload_n rfl ?_
      refine g_strl (by decide) rfl (fun v1029 kv1029 => ?_)
      refine g_if2_ge (fun c1030 => ?_) (fun c1030 => ?_)
      · refine g_iconst (by decide) (fun v1031 kv1031 => ?_)
        exact g_iret ⟨_, rfl, rfl, (by first | with_reducible assumption | omega), (wm_end q1 (by first | with_reducible assumption | omega) (by first | with_reducible assumption | omega))⟩
      · refine g_iconst (by decide) (fun v1032 kv1032 => ?_)
        refine g_istore_n (l' := [(0, .ref 0), (1, .int v1026), (2, .int v1027), (3, .int v1032)]) rfl rfl ?_
        refine g_nop ?_
        have L1034 : ∀ (N : Nat) (v1033 : Int32), (0 ≤ v1033.toInt ∧ v1033.toInt ≤ 90) → wmJ (bM H) x1.toInt.toNat (x0.toInt.toNat - x1.toInt.toNat) v1026.toInt v1027.toInt v1033.toInt → v1027.toInt + v1033.toInt ≤ 90 → v1027.toInt ≤ 90 → (91 - v1033.toInt).toNat < N → gG 4 zB_160 (mzBlk zB_160 2) [(0, .ref 0), (1, .int v1026), (2, .int v1027), (3, .int v1033)] [] (mS H x0 x1 x2 x3 x4 x5 x6) 0 0 (gRi (fun v H' => H' = mS H x0 x1 x2 x3 x4 x5 x6 ∧ (-1 ≤ v.toInt ∧ v.toInt ≤ 17) ∧ kwM v.toInt (wv (bM H) x1.toInt.toNat (x0.toInt.toNat - x1.toInt.toNat)))) := by
          intro N
          induction N with
          | zero => intro v1033 bv1033 q2 q3 q4 hmL1034; exact absurd hmL1034 (Nat.not_lt_zero _)
          | succ N ihL1034 =>
            intro v1033 bv1033 q2 q3 q4 hmL1034
            have hn18 := wm_le q1 (by first | with_reducible assumption | omega)
            refine g_str2 (by decide) rfl rfl rfl (by first | with_reducible assumption | omega) (fun v1035 ev1035 lv1035 uv1035 dv1035 => ?_)
            have sv1035 : v1035.toInt = wmC (v1027.toInt.toNat + v1033.toInt.toNat) := by rw [ev1035, show (v1027.toInt + v1033.toInt).toNat = v1027.toInt.toNat + v1033.toInt.toNat by omega]; rfl
            refine g_bipush (by decide) (fun v1036 kv1036 => ?_)
            refine g_if2_eq (fun c1037 => ?_) (fun c1037 => ?_)
            · refine g_str2 (by decide) rfl rfl rfl (by first | with_reducible assumption | omega) (fun v1038 ev1038 lv1038 uv1038 dv1038 => ?_)
              have sv1038 : v1038.toInt = wmC (v1027.toInt.toNat + v1033.toInt.toNat) := by rw [ev1038, show (v1027.toInt + v1033.toInt).toNat = v1027.toInt.toNat + v1033.toInt.toNat by omega]; rfl
              refine g_bipush (by decide) (fun v1039 kv1039 => ?_)
              refine g_if2_ne (fun c1040 => ?_) (fun c1040 => ?_)
              · have L1042 : ∀ (N : Nat) (v1041 : Int32), (0 ≤ v1041.toInt ∧ v1041.toInt ≤ 90) → wv (bM H) x1.toInt.toNat (x0.toInt.toNat - x1.toInt.toNat) ≠ cM.getD v1026.toInt.toNat 0 → wmK v1026.toInt v1027.toInt v1041.toInt → v1027.toInt ≤ v1041.toInt → (91 - v1041.toInt).toNat < N → gG 4 zB_160 (mzBlk zB_160 4) [(0, .ref 0), (1, .int v1026), (2, .int v1041), (3, .int v1033)] [] (mS H x0 x1 x2 x3 x4 x5 x6) 0 0 (gRi (fun v H' => H' = mS H x0 x1 x2 x3 x4 x5 x6 ∧ (-1 ≤ v.toInt ∧ v.toInt ≤ 17) ∧ kwM v.toInt (wv (bM H) x1.toInt.toNat (x0.toInt.toNat - x1.toInt.toNat)))) := by
                  intro N
                  induction N with
                  | zero => intro v1041 bv1041 q6 q8 q9 hmL1042; exact absurd hmL1042 (Nat.not_lt_zero _)
                  | succ N ihL1042 =>
                    intro v1041 bv1041 q6 q8 q9 hmL1042
                    refine g_str1 (by decide) rfl rfl (by first | with_reducible assumption | omega) (fun v1043 ev1043 lv1043 uv1043 dv1043 => ?_)
                    have sv1043 : v1043.toInt = wmC v1041.toInt.toNat := by rw [ev1043]; rfl
                    refine g_bipush (by decide) (fun v1044 kv1044 => ?_)
                    refine g_if2_eq (fun c1045 => ?_) (fun c1045 => ?_)
                    · refine g_iinc (l' := (fun v1046 => [(0, .ref 0), (1, .int v1026), (2, .int v1046), (3, .int v1033)])) rfl rfl (by decide) (by first | with_reducible assumption | omega) (fun _ => rfl) (fun v1046 ev1046 => ?_)
                      refine g_iinc (l' := (fun v1047 => [(0, .ref 0), (1, .int v1047), (2, .int v1046), (3, .int v1033)])) rfl rfl (by decide) (by first | with_reducible assumption | omega) (fun _ => rfl) (fun v1047 ev1047 => ?_)
                      refine g_goto ?_
                      refine gG_pick [0, 1, 2] (l' := [(0, .ref 0), (1, .int v1047), (2, .int v1046)]) rfl ?_
                      exact ihL1028 v1047 v1046 (by first | with_reducible assumption | omega) (by first | with_reducible assumption | omega) (wm_st q1 (by first | with_reducible assumption | omega) q8 q6 (by first | with_reducible assumption | omega) (by first | with_reducible assumption | omega) (by first | with_reducible assumption | omega)) (by first | with_reducible assumption | omega)
                    · refine g_iinc (l' := (fun v1048 => [(0, .ref 0), (1, .int v1026), (2, .int v1048), (3, .int v1033)])) rfl rfl (by decide) (by first | with_reducible assumption | omega) (fun _ => rfl) (fun v1048 ev1048 => ?_)
                      refine g_goto ?_
                      exact ihL1042 v1048 (by first | with_reducible assumption | omega) q6 (wk_st q1 (by first | with_reducible assumption | omega) q8 (by first | with_reducible assumption | omega) (by first | with_reducible assumption | omega)) (by first | with_reducible assumption | omega) (by first | with_reducible assumption | omega)
                exact L1042 _ v1027 (by first | with_reducible assumption | omega) (wm_no q1 (by first | with_reducible assumption | omega) q2 hp0 (by first | with_reducible assumption | omega)) (wk_0 (by first | with_reducible assumption | omega)) (by first | with_reducible assumption | omega) (Nat.lt_succ_self _)
              · refine g_aload_n rfl ?_
                refine g_gfk (mS_I hI (by first | with_reducible assumption | omega) (by first | with_reducible assumption | omega) (by first | with_reducible assumption | omega)) sm_0 rfl (mS_g9 hI) ?_
                refine g_iload_n rfl ?_
                refine g_iadd (by first | with_reducible assumption | omega) (fun v1049 ev1049 => ?_)
                refine g_aload_n rfl ?_
                refine g_gfk (mS_I hI (by first | with_reducible assumption | omega) (by first | with_reducible assumption | omega) (by first | with_reducible assumption | omega)) sm_0 rfl (mS_g8 hI) ?_
                refine g_if2_ne (fun c1050 => ?_) (fun c1050 => ?_)
                · have L1052 : ∀ (N : Nat) (v1051 : Int32), (0 ≤ v1051.toInt ∧ v1051.toInt ≤ 90) → wv (bM H) x1.toInt.toNat (x0.toInt.toNat - x1.toInt.toNat) ≠ cM.getD v1026.toInt.toNat 0 → wmK v1026.toInt v1027.toInt v1051.toInt → v1027.toInt ≤ v1051.toInt → (91 - v1051.toInt).toNat < N → gG 4 zB_160 (mzBlk zB_160 4) [(0, .ref 0), (1, .int v1026), (2, .int v1051), (3, .int v1033)] [] (mS H x0 x1 x2 x3 x4 x5 x6) 0 0 (gRi (fun v H' => H' = mS H x0 x1 x2 x3 x4 x5 x6 ∧ (-1 ≤ v.toInt ∧ v.toInt ≤ 17) ∧ kwM v.toInt (wv (bM H) x1.toInt.toNat (x0.toInt.toNat - x1.toInt.toNat)))) := by
                    intro N
                    induction N with
                    | zero => intro v1051 bv1051 q6 q8 q9 hmL1052; exact absurd hmL1052 (Nat.not_lt_zero _)
                    | succ N ihL1052 =>
                      intro v1051 bv1051 q6 q8 q9 hmL1052
                      refine g_str1 (by decide) rfl rfl (by first | with_reducible assumption | omega) (fun v1053 ev1053 lv1053 uv1053 dv1053 => ?_)
                      have sv1053 : v1053.toInt = wmC v1051.toInt.toNat := by rw [ev1053]; rfl
                      refine g_bipush (by decide) (fun v1054 kv1054 => ?_)
                      refine g_if2_eq (fun c1055 => ?_) (fun c1055 => ?_)
                      · refine g_iinc (l' := (fun v1056 => [(0, .ref 0), (1, .int v1026), (2, .int v1056), (3, .int v1033)])) rfl rfl (by decide) (by first | with_reducible assumption | omega) (fun _ => rfl) (fun v1056 ev1056 => ?_)
                        refine g_iinc (l' := (fun v1057 => [(0, .ref 0), (1, .int v1057), (2, .int v1056), (3, .int v1033)])) rfl rfl (by decide) (by first | with_reducible assumption | omega) (fun _ => rfl) (fun v1057 ev1057 => ?_)
                        refine g_goto ?_
                        refine gG_pick [0, 1, 2] (l' := [(0, .ref 0), (1, .int v1057), (2, .int v1056)]) rfl ?_
                        exact ihL1028 v1057 v1056 (by first | with_reducible assumption | omega) (by first | with_reducible assumption | omega) (wm_st q1 (by first | with_reducible assumption | omega) q8 q6 (by first | with_reducible assumption | omega) (by first | with_reducible assumption | omega) (by first | with_reducible assumption | omega)) (by first | with_reducible assumption | omega)
                      · refine g_iinc (l' := (fun v1058 => [(0, .ref 0), (1, .int v1026), (2, .int v1058), (3, .int v1033)])) rfl rfl (by decide) (by first | with_reducible assumption | omega) (fun _ => rfl) (fun v1058 ev1058 => ?_)
                        refine g_goto ?_
                        exact ihL1052 v1058 (by first | with_reducible assumption | omega) q6 (wk_st q1 (by first | with_reducible assumption | omega) q8 (by first | with_reducible assumption | omega) (by first | with_reducible assumption | omega)) (by first | with_reducible assumption | omega) (by first | with_reducible assumption | omega)
                  exact L1052 _ v1027 (by first | with_reducible assumption | omega) (wm_no q1 (by first | with_reducible assumption | omega) q2 hp0 (by first | with_reducible assumption | omega)) (wk_0 (by first | with_reducible assumption | omega)) (by first | with_reducible assumption | omega) (Nat.lt_succ_self _)
                · refine g_iload_n rfl ?_
                  exact g_iret ⟨_, rfl, rfl, (by first | with_reducible assumption | omega), (wm_hit q1 (by first | with_reducible assumption | omega) q2 (by first | with_reducible assumption | omega) (by first | with_reducible assumption | omega))⟩
            · refine g_aload_n rfl ?_
              refine g_gfk (mS_I hI (by first | with_reducible assumption | omega) (by first | with_reducible assumption | omega) (by first | with_reducible assumption | omega)) sm_0 rfl (mS_g9 hI) ?_
              refine g_iload_n rfl ?_
              refine g_iadd (by first | with_reducible assumption | omega) (fun v1059 ev1059 => ?_)
              refine g_aload_n rfl ?_
              refine g_gfk (mS_I hI (by first | with_reducible assumption | omega) (by first | with_reducible assumption | omega) (by first | with_reducible assumption | omega)) sm_0 rfl (mS_g8 hI) ?_
              refine g_if2_ge (fun c1060 => ?_) (fun c1060 => ?_)
              · refine g_str2 (by decide) rfl rfl rfl (by first | with_reducible assumption | omega) (fun v1061 ev1061 lv1061 uv1061 dv1061 => ?_)
                have sv1061 : v1061.toInt = wmC (v1027.toInt.toNat + v1033.toInt.toNat) := by rw [ev1061, show (v1027.toInt + v1033.toInt).toNat = v1027.toInt.toNat + v1033.toInt.toNat by omega]; rfl
                refine g_bipush (by decide) (fun v1062 kv1062 => ?_)
                refine g_if2_ne (fun c1063 => ?_) (fun c1063 => ?_)
                · have L1065 : ∀ (N : Nat) (v1064 : Int32), (0 ≤ v1064.toInt ∧ v1064.toInt ≤ 90) → wv (bM H) x1.toInt.toNat (x0.toInt.toNat - x1.toInt.toNat) ≠ cM.getD v1026.toInt.toNat 0 → wmK v1026.toInt v1027.toInt v1064.toInt → v1027.toInt ≤ v1064.toInt → (91 - v1064.toInt).toNat < N → gG 4 zB_160 (mzBlk zB_160 4) [(0, .ref 0), (1, .int v1026), (2, .int v1064), (3, .int v1033)] [] (mS H x0 x1 x2 x3 x4 x5 x6) 0 0 (gRi (fun v H' => H' = mS H x0 x1 x2 x3 x4 x5 x6 ∧ (-1 ≤ v.toInt ∧ v.toInt ≤ 17) ∧ kwM v.toInt (wv (bM H) x1.toInt.toNat (x0.toInt.toNat - x1.toInt.toNat)))) := by
                    intro N
                    induction N with
                    | zero => intro v1064 bv1064 q6 q8 q9 hmL1065; exact absurd hmL1065 (Nat.not_lt_zero _)
                    | succ N ihL1065 =>
                      intro v1064 bv1064 q6 q8 q9 hmL1065
                      refine g_str1 (by decide) rfl rfl (by first | with_reducible assumption | omega) (fun v1066 ev1066 lv1066 uv1066 dv1066 => ?_)
                      have sv1066 : v1066.toInt = wmC v1064.toInt.toNat := by rw [ev1066]; rfl
                      refine g_bipush (by decide) (fun v1067 kv1067 => ?_)
                      refine g_if2_eq (fun c1068 => ?_) (fun c1068 => ?_)
                      · refine g_iinc (l' := (fun v1069 => [(0, .ref 0), (1, .int v1026), (2, .int v1069), (3, .int v1033)])) rfl rfl (by decide) (by first | with_reducible assumption | omega) (fun _ => rfl) (fun v1069 ev1069 => ?_)
                        refine g_iinc (l' := (fun v1070 => [(0, .ref 0), (1, .int v1070), (2, .int v1069), (3, .int v1033)])) rfl rfl (by decide) (by first | with_reducible assumption | omega) (fun _ => rfl) (fun v1070 ev1070 => ?_)
                        refine g_goto ?_
                        refine gG_pick [0, 1, 2] (l' := [(0, .ref 0), (1, .int v1070), (2, .int v1069)]) rfl ?_
                        exact ihL1028 v1070 v1069 (by first | with_reducible assumption | omega) (by first | with_reducible assumption | omega) (wm_st q1 (by first | with_reducible assumption | omega) q8 q6 (by first | with_reducible assumption | omega) (by first | with_reducible assumption | omega) (by first | with_reducible assumption | omega)) (by first | with_reducible assumption | omega)
                      · refine g_iinc (l' := (fun v1071 => [(0, .ref 0), (1, .int v1026), (2, .int v1071), (3, .int v1033)])) rfl rfl (by decide) (by first | with_reducible assumption | omega) (fun _ => rfl) (fun v1071 ev1071 => ?_)
                        refine g_goto ?_
                        exact ihL1065 v1071 (by first | with_reducible assumption | omega) q6 (wk_st q1 (by first | with_reducible assumption | omega) q8 (by first | with_reducible assumption | omega) (by first | with_reducible assumption | omega)) (by first | with_reducible assumption | omega) (by first | with_reducible assumption | omega)
                  exact L1065 _ v1027 (by first | with_reducible assumption | omega) (wm_no q1 (by first | with_reducible assumption | omega) q2 hp0 (by first | with_reducible assumption | omega)) (wk_0 (by first | with_reducible assumption | omega)) (by first | with_reducible assumption | omega) (Nat.lt_succ_self _)
                · refine g_aload_n rfl ?_
                  refine g_gfk (mS_I hI (by first | with_reducible assumption | omega) (by first | with_reducible assumption | omega) (by first | with_reducible assumption | omega)) sm_0 rfl (mS_g9 hI) ?_
                  refine g_iload_n rfl ?_
                  refine g_iadd (by first | with_reducible assumption | omega) (fun v1072 ev1072 => ?_)
                  refine g_aload_n rfl ?_
                  refine g_gfk (mS_I hI (by first | with_reducible assumption | omega) (by first | with_reducible assumption | omega) (by first | with_reducible assumption | omega)) sm_0 rfl (mS_g8 hI) ?_
                  refine g_if2_ne (fun c1073 => ?_) (fun c1073 => ?_)
                  · have L1075 : ∀ (N : Nat) (v1074 : Int32), (0 ≤ v1074.toInt ∧ v1074.toInt ≤ 90) → wv (bM H) x1.toInt.toNat (x0.toInt.toNat - x1.toInt.toNat) ≠ cM.getD v1026.toInt.toNat 0 → wmK v1026.toInt v1027.toInt v1074.toInt → v1027.toInt ≤ v1074.toInt → (91 - v1074.toInt).toNat < N → gG 4 zB_160 (mzBlk zB_160 4) [(0, .ref 0), (1, .int v1026), (2, .int v1074), (3, .int v1033)] [] (mS H x0 x1 x2 x3 x4 x5 x6) 0 0 (gRi (fun v H' => H' = mS H x0 x1 x2 x3 x4 x5 x6 ∧ (-1 ≤ v.toInt ∧ v.toInt ≤ 17) ∧ kwM v.toInt (wv (bM H) x1.toInt.toNat (x0.toInt.toNat - x1.toInt.toNat)))) := by
                      intro N
                      induction N with
                      | zero => intro v1074 bv1074 q6 q8 q9 hmL1075; exact absurd hmL1075 (Nat.not_lt_zero _)
                      | succ N ihL1075 =>
                        intro v1074 bv1074 q6 q8 q9 hmL1075
                        refine g_str1 (by decide) rfl rfl (by first | with_reducible assumption | omega) (fun v1076 ev1076 lv1076 uv1076 dv1076 => ?_)
                        have sv1076 : v1076.toInt = wmC v1074.toInt.toNat := by rw [ev1076]; rfl
                        refine g_bipush (by decide) (fun v1077 kv1077 => ?_)
                        refine g_if2_eq (fun c1078 => ?_) (fun c1078 => ?_)
                        · refine g_iinc (l' := (fun v1079 => [(0, .ref 0), (1, .int v1026), (2, .int v1079), (3, .int v1033)])) rfl rfl (by decide) (by first | with_reducible assumption | omega) (fun _ => rfl) (fun v1079 ev1079 => ?_)
                          refine g_iinc (l' := (fun v1080 => [(0, .ref 0), (1, .int v1080), (2, .int v1079), (3, .int v1033)])) rfl rfl (by decide) (by first | with_reducible assumption | omega) (fun _ => rfl) (fun v1080 ev1080 => ?_)
                          refine g_goto ?_
                          refine gG_pick [0, 1, 2] (l' := [(0, .ref 0), (1, .int v1080), (2, .int v1079)]) rfl ?_
                          exact ihL1028 v1080 v1079 (by first | with_reducible assumption | omega) (by first | with_reducible assumption | omega) (wm_st q1 (by first | with_reducible assumption | omega) q8 q6 (by first | with_reducible assumption | omega) (by first | with_reducible assumption | omega) (by first | with_reducible assumption | omega)) (by first | with_reducible assumption | omega)
                        · refine g_iinc (l' := (fun v1081 => [(0, .ref 0), (1, .int v1026), (2, .int v1081), (3, .int v1033)])) rfl rfl (by decide) (by first | with_reducible assumption | omega) (fun _ => rfl) (fun v1081 ev1081 => ?_)
                          refine g_goto ?_
                          exact ihL1075 v1081 (by first | with_reducible assumption | omega) q6 (wk_st q1 (by first | with_reducible assumption | omega) q8 (by first | with_reducible assumption | omega) (by first | with_reducible assumption | omega)) (by first | with_reducible assumption | omega) (by first | with_reducible assumption | omega)
                    exact L1075 _ v1027 (by first | with_reducible assumption | omega) (wm_no q1 (by first | with_reducible assumption | omega) q2 hp0 (by first | with_reducible assumption | omega)) (wk_0 (by first | with_reducible assumption | omega)) (by first | with_reducible assumption | omega) (Nat.lt_succ_self _)
                  · refine g_iload_n rfl ?_
                    exact g_iret ⟨_, rfl, rfl, (by first | with_reducible assumption | omega), (wm_hit q1 (by first | with_reducible assumption | omega) q2 (by first | with_reducible assumption | omega) (by first | with_reducible assumption | omega))⟩
              · refine g_aload_n rfl ?_
                refine g_gfr (mS_I hI (by first | with_reducible assumption | omega) (by first | with_reducible assumption | omega) (by first | with_reducible assumption | omega)) sm_0 rfl ?_
                refine g_aload_n rfl ?_
                refine g_gfk (mS_I hI (by first | with_reducible assumption | omega) (by first | with_reducible assumption | omega) (by first | with_reducible assumption | omega)) sm_0 rfl (mS_g9 hI) ?_
                refine g_iload_n rfl ?_
                refine g_iadd (by first | with_reducible assumption | omega) (fun v1082 ev1082 => ?_)
                refine g_iaload (mS_I hI (by first | with_reducible assumption | omega) (by first | with_reducible assumption | omega) (by first | with_reducible assumption | omega)) sm_1 rfl (by first | with_reducible assumption | omega) (fun v1083 ev1083 lv1083 uv1083 => ?_)
                have dv1083 : v1083 = aZ H 1 v1082.toInt.toNat := ev1083.trans mS_a
                have tv1083 : v1083.toInt = (aZ H 1 v1082.toInt.toNat).toInt := by rw [dv1083]
                have sv1083 : v1083.toInt = bM H v1082.toInt.toNat := tv1083
                rw [show v1082.toInt.toNat = x1.toInt.toNat + v1033.toInt.toNat by omega] at sv1083
                refine g_str2 (by decide) rfl rfl rfl (by first | with_reducible assumption | omega) (fun v1084 ev1084 lv1084 uv1084 dv1084 => ?_)
                have sv1084 : v1084.toInt = wmC (v1027.toInt.toNat + v1033.toInt.toNat) := by rw [ev1084, show (v1027.toInt + v1033.toInt).toNat = v1027.toInt.toNat + v1033.toInt.toNat by omega]; rfl
                refine g_if2_ne (fun c1085 => ?_) (fun c1085 => ?_)
                · refine g_str2 (by decide) rfl rfl rfl (by first | with_reducible assumption | omega) (fun v1086 ev1086 lv1086 uv1086 dv1086 => ?_)
                  have sv1086 : v1086.toInt = wmC (v1027.toInt.toNat + v1033.toInt.toNat) := by rw [ev1086, show (v1027.toInt + v1033.toInt).toNat = v1027.toInt.toNat + v1033.toInt.toNat by omega]; rfl
                  refine g_bipush (by decide) (fun v1087 kv1087 => ?_)
                  refine g_if2_ne (fun c1088 => ?_) (fun c1088 => ?_)
                  · have L1090 : ∀ (N : Nat) (v1089 : Int32), (0 ≤ v1089.toInt ∧ v1089.toInt ≤ 90) → wv (bM H) x1.toInt.toNat (x0.toInt.toNat - x1.toInt.toNat) ≠ cM.getD v1026.toInt.toNat 0 → wmK v1026.toInt v1027.toInt v1089.toInt → v1027.toInt ≤ v1089.toInt → (91 - v1089.toInt).toNat < N → gG 4 zB_160 (mzBlk zB_160 4) [(0, .ref 0), (1, .int v1026), (2, .int v1089), (3, .int v1033)] [] (mS H x0 x1 x2 x3 x4 x5 x6) 0 0 (gRi (fun v H' => H' = mS H x0 x1 x2 x3 x4 x5 x6 ∧ (-1 ≤ v.toInt ∧ v.toInt ≤ 17) ∧ kwM v.toInt (wv (bM H) x1.toInt.toNat (x0.toInt.toNat - x1.toInt.toNat)))) := by
                      intro N
                      induction N with
                      | zero => intro v1089 bv1089 q6 q8 q9 hmL1090; exact absurd hmL1090 (Nat.not_lt_zero _)
                      | succ N ihL1090 =>
                        intro v1089 bv1089 q6 q8 q9 hmL1090
                        refine g_str1 (by decide) rfl rfl (by first | with_reducible assumption | omega) (fun v1091 ev1091 lv1091 uv1091 dv1091 => ?_)
                        have sv1091 : v1091.toInt = wmC v1089.toInt.toNat := by rw [ev1091]; rfl
                        refine g_bipush (by decide) (fun v1092 kv1092 => ?_)
                        refine g_if2_eq (fun c1093 => ?_) (fun c1093 => ?_)
                        · refine g_iinc (l' := (fun v1094 => [(0, .ref 0), (1, .int v1026), (2, .int v1094), (3, .int v1033)])) rfl rfl (by decide) (by first | with_reducible assumption | omega) (fun _ => rfl) (fun v1094 ev1094 => ?_)
                          refine g_iinc (l' := (fun v1095 => [(0, .ref 0), (1, .int v1095), (2, .int v1094), (3, .int v1033)])) rfl rfl (by decide) (by first | with_reducible assumption | omega) (fun _ => rfl) (fun v1095 ev1095 => ?_)
                          refine g_goto ?_
                          refine gG_pick [0, 1, 2] (l' := [(0, .ref 0), (1, .int v1095), (2, .int v1094)]) rfl ?_
                          exact ihL1028 v1095 v1094 (by first | with_reducible assumption | omega) (by first | with_reducible assumption | omega) (wm_st q1 (by first | with_reducible assumption | omega) q8 q6 (by first | with_reducible assumption | omega) (by first | with_reducible assumption | omega) (by first | with_reducible assumption | omega)) (by first | with_reducible assumption | omega)
                        · refine g_iinc (l' := (fun v1096 => [(0, .ref 0), (1, .int v1026), (2, .int v1096), (3, .int v1033)])) rfl rfl (by decide) (by first | with_reducible assumption | omega) (fun _ => rfl) (fun v1096 ev1096 => ?_)
                          refine g_goto ?_
                          exact ihL1090 v1096 (by first | with_reducible assumption | omega) q6 (wk_st q1 (by first | with_reducible assumption | omega) q8 (by first | with_reducible assumption | omega) (by first | with_reducible assumption | omega)) (by first | with_reducible assumption | omega) (by first | with_reducible assumption | omega)
                    exact L1090 _ v1027 (by first | with_reducible assumption | omega) (wm_no q1 (by first | with_reducible assumption | omega) q2 hp0 (by first | with_reducible assumption | omega)) (wk_0 (by first | with_reducible assumption | omega)) (by first | with_reducible assumption | omega) (Nat.lt_succ_self _)
                  · refine g_aload_n rfl ?_
                    refine g_gfk (mS_I hI (by first | with_reducible assumption | omega) (by first | with_reducible assumption | omega) (by first | with_reducible assumption | omega)) sm_0 rfl (mS_g9 hI) ?_
                    refine g_iload_n rfl ?_
                    refine g_iadd (by first | with_reducible assumption | omega) (fun v1097 ev1097 => ?_)
                    refine g_aload_n rfl ?_
                    refine g_gfk (mS_I hI (by first | with_reducible assumption | omega) (by first | with_reducible assumption | omega) (by first | with_reducible assumption | omega)) sm_0 rfl (mS_g8 hI) ?_
                    refine g_if2_ne (fun c1098 => ?_) (fun c1098 => ?_)
                    · have L1100 : ∀ (N : Nat) (v1099 : Int32), (0 ≤ v1099.toInt ∧ v1099.toInt ≤ 90) → wv (bM H) x1.toInt.toNat (x0.toInt.toNat - x1.toInt.toNat) ≠ cM.getD v1026.toInt.toNat 0 → wmK v1026.toInt v1027.toInt v1099.toInt → v1027.toInt ≤ v1099.toInt → (91 - v1099.toInt).toNat < N → gG 4 zB_160 (mzBlk zB_160 4) [(0, .ref 0), (1, .int v1026), (2, .int v1099), (3, .int v1033)] [] (mS H x0 x1 x2 x3 x4 x5 x6) 0 0 (gRi (fun v H' => H' = mS H x0 x1 x2 x3 x4 x5 x6 ∧ (-1 ≤ v.toInt ∧ v.toInt ≤ 17) ∧ kwM v.toInt (wv (bM H) x1.toInt.toNat (x0.toInt.toNat - x1.toInt.toNat)))) := by
                        intro N
                        induction N with
                        | zero => intro v1099 bv1099 q6 q8 q9 hmL1100; exact absurd hmL1100 (Nat.not_lt_zero _)
                        | succ N ihL1100 =>
                          intro v1099 bv1099 q6 q8 q9 hmL1100
                          refine g_str1 (by decide) rfl rfl (by first | with_reducible assumption | omega) (fun v1101 ev1101 lv1101 uv1101 dv1101 => ?_)
                          have sv1101 : v1101.toInt = wmC v1099.toInt.toNat := by rw [ev1101]; rfl
                          refine g_bipush (by decide) (fun v1102 kv1102 => ?_)
                          refine g_if2_eq (fun c1103 => ?_) (fun c1103 => ?_)
                          · refine g_iinc (l' := (fun v1104 => [(0, .ref 0), (1, .int v1026), (2, .int v1104), (3, .int v1033)])) rfl rfl (by decide) (by first | with_reducible assumption | omega) (fun _ => rfl) (fun v1104 ev1104 => ?_)
                            refine g_iinc (l' := (fun v1105 => [(0, .ref 0), (1, .int v1105), (2, .int v1104), (3, .int v1033)])) rfl rfl (by decide) (by first | with_reducible assumption | omega) (fun _ => rfl) (fun v1105 ev1105 => ?_)
                            refine g_goto ?_
                            refine gG_pick [0, 1, 2] (l' := [(0, .ref 0), (1, .int v1105), (2, .int v1104)]) rfl ?_
                            exact ihL1028 v1105 v1104 (by first | with_reducible assumption | omega) (by first | with_reducible assumption | omega) (wm_st q1 (by first | with_reducible assumption | omega) q8 q6 (by first | with_reducible assumption | omega) (by first | with_reducible assumption | omega) (by first | with_reducible assumption | omega)) (by first | with_reducible assumption | omega)
                          · refine g_iinc (l' := (fun v1106 => [(0, .ref 0), (1, .int v1026), (2, .int v1106), (3, .int v1033)])) rfl rfl (by decide) (by first | with_reducible assumption | omega) (fun _ => rfl) (fun v1106 ev1106 => ?_)
                            refine g_goto ?_
                            exact ihL1100 v1106 (by first | with_reducible assumption | omega) q6 (wk_st q1 (by first | with_reducible assumption | omega) q8 (by first | with_reducible assumption | omega) (by first | with_reducible assumption | omega)) (by first | with_reducible assumption | omega) (by first | with_reducible assumption | omega)
                      exact L1100 _ v1027 (by first | with_reducible assumption | omega) (wm_no q1 (by first | with_reducible assumption | omega) q2 hp0 (by first | with_reducible assumption | omega)) (wk_0 (by first | with_reducible assumption | omega)) (by first | with_reducible assumption | omega) (Nat.lt_succ_self _)
                    · refine g_iload_n rfl ?_
                      exact g_iret ⟨_, rfl, rfl, (by first | with_reducible assumption | omega), (wm_hit q1 (by first | with_reducible assumption | omega) q2 (by first | with_reducible assumption | omega) (by first | with_reducible assumption | omega))⟩
                · refine g_iinc (l' := (fun v1107 => [(0, .ref 0), (1, .int v1026), (2, .int v1027), (3, .int v1107)])) rfl rfl (by decide) (by first | with_reducible assumption | omega) (fun _ => rfl) (fun v1107 ev1107 => ?_)
                  refine g_goto ?_
                  exact ihL1034 v1107 (by first | with_reducible assumption | omega) (wj_st q1 q2 (by first | with_reducible assumption | omega) (by first | with_reducible assumption | omega) (by first | with_reducible assumption | omega) (by first | with_reducible assumption | omega) (by first | with_reducible assumption | omega)) (wm_90 q1 (by first | with_reducible assumption | omega) (wj_st q1 q2 (by first | with_reducible assumption | omega) (by first | with_reducible assumption | omega) (by first | with_reducible assumption | omega) (by first | with_reducible assumption | omega) (by first | with_reducible assumption | omega))) (by first | with_reducible assumption | omega) (by first | with_reducible assumption | omega)
        exact L1034 _ v1032 (by first | with_reducible assumption | omega) (wj_0 (by first | with_reducible assumption | omega)) (by have := wm_le q1 (by first | with_reducible assumption | omega); omega) (by first | with_reducible assumption | omega) (Nat.lt_succ_self _)
  exact L1028 _ v1024 v1025 (by first | with_reducible assumption | omega) (by first | with_reducible assumption | omega) (wm_0 (by first | with_reducible assumption | omega) (by first | with_reducible assumption | omega)) (Nat.lt_succ_self _)
