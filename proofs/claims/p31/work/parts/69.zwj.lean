/-! WHAT WOULD BE -/
/-- how many of the first p are refused -/
def rfH (H : mzH) (hr : Nat → Int) (od : Nat → Nat) (p : Nat) : Int := cnt (fun q => ¬ vdH H hr (rnH H hr (olF q od)) (od q) = 0) p
/-- where a thing is at the end, of other hours; or how many are refused -/
def otH (H : mzH) (hr : Nat → Int) (N : Nat) (n : Int) : Int := if n < 0 then rfH H hr (ordF hr N) N else whr (rnH H hr (olF N (ordF hr N))) n.toNat
theorem stH_kp {H A : mzH} (fr : kpX H A) {hr : Nat → Int} : stH A hr = stH H hr ∧ vdH A hr = vdH H hr := by
  have e3 := fr 3 (by decide)
  have r : ∀ j, roX A j 1 = roX H j 1 ∧ roX A j 2 = roX H j 2 ∧ roX A j 3 = roX H j 3 ∧ roX A j 4 = roX H j 4 := fun j => ⟨by show (aZ A 7 j).toInt = (aZ H 7 j).toInt; rw [(fr 7 (by decide)).2], by show (aZ A 8 j).toInt = (aZ H 8 j).toInt; rw [(fr 8 (by decide)).2], by show (aZ A 9 j).toInt = (aZ H 9 j).toInt; rw [(fr 9 (by decide)).2], by show (aZ A 10 j).toInt = (aZ H 10 j).toInt; rw [(fr 10 (by decide)).2]⟩
  constructor
  · funext s j
    unfold stH
    obtain ⟨r1, r2, r3, r4⟩ := r j
    rw [wyX_kp fr, e3.1, e3.1, r1, r2, r3, r4]
  · funext s j
    unfold vdH
    obtain ⟨r1, r2, r3, r4⟩ := r j
    rw [wyX_kp fr, e3.1, e3.1, r1, r2, r3]
theorem rnH_kp {H A : mzH} (fr : kpX H A) {hr : Nat → Int} : rnH A hr = rnH H hr := by
  funext l
  unfold rnH
  rw [(stH_kp fr).1]
theorem ot_kp {H A : mzH} (fr : kpX H A) {hr : Nat → Int} {N : Nat} {n : Int} : otH A hr N n = otH H hr N n := by
  unfold otH rfH
  rw [rnH_kp fr, (stH_kp fr).2]
theorem ordF_in {hr : Nat → Int} {N q : Nat} (h : q < N) : ordF hr N q < N := ordF_lt N h
theorem ot_cg {H : mzH} {hr hr2 : Nat → Int} {N : Nat} {n : Int} (h : ∀ j, j < N → hr j = hr2 j) : otH H hr N n = otH H hr2 N n := by
  have e := ordF_cg (hr := hr) (hs := hr2) N h
  have g : ∀ p, p ≤ N → rnH H hr (olF p (ordF hr2 N)) = rnH H hr2 (olF p (ordF hr2 N)) := fun p hp => rnH_cg (fun j hj => by
    obtain ⟨x, hx, rfl⟩ := olF_mem.mp hj
    exact h _ (ordF_lt N (by omega)))
  unfold otH rfH
  rw [e, g N (Nat.le_refl _)]
  congr 1
  refine cnt_cg (fun q hq => ?_)
  rw [g q (by omega)]
  unfold vdH
  rw [h _ (ordF_lt N hq)]
/-- rows in order, told for other hours -/
def gdO (H : mzH) : Prop := ((0 ≤ (fZ H 51 2).toInt ∧ (fZ H 51 2).toInt ≤ 60) ∧ (fZ H 25 2).toInt = (fZ H 51 2).toInt) ∧ (∀ j : Nat, j < (fZ H 51 2).toInt.toNat → rwO 8 (roX H) (hoX H) j) ∧ ∀ j : Nat, j < (fZ H 51 2).toInt.toNat → 0 ≤ (aZ H 52 j).toInt ∧ (aZ H 52 j).toInt ≤ 999
theorem rn_ot {H : mzH} (h : gdO H) {p : Nat} (hp : p ≤ (fZ H 51 2).toInt.toNat) : wfS 8 (rnH H (fun j => (aZ H 52 j).toInt) (olF p (ordF (fun j => (aZ H 52 j).toInt) (fZ H 51 2).toInt.toNat))) := by
  obtain ⟨⟨h0, h00⟩, h1, h2⟩ := h
  refine rn_wf (fun j hj => h1 j (by omega)) (fun j hj => h2 j (by omega)) _ (fun j hj => ?_)
  obtain ⟨x, hx, rfl⟩ := olF_mem.mp hj
  have := ordF_lt (hr := fun j => (aZ H 52 j).toInt) (fZ H 51 2).toInt.toNat (q := x) (by omega)
  omega
theorem gdO_of {H B : mzH} {hr : Nat → Int} (h : gdY H) (fr : kpX H B) (e : fZ B 51 2 = fZ H 3 9) (eh : ∀ j : Nat, (aZ B 52 j).toInt = hr j) (hb : ∀ j : Nat, j < (fZ H 3 9).toInt.toNat → 0 ≤ hr j ∧ hr j ≤ 999) : gdO B ∧ ∀ n, otH B (fun j => (aZ B 52 j).toInt) (fZ B 51 2).toInt.toNat n = otH H hr (fZ H 3 9).toInt.toNat n := by
  obtain ⟨⟨h0, h00, h01⟩, h1, h2⟩ := h
  refine ⟨⟨⟨by rw [e]; omega, by rw [e, (fr 25 (by decide)).1]; exact h00⟩, fun j hj => ?_, fun j hj => by rw [eh]; exact hb j (by rw [← e]; exact hj)⟩, fun n => ?_⟩
  · rw [e] at hj
    have k := h2 j (by omega)
    have a1 : roX B j 1 = roX H j 1 := by show (aZ B 7 j).toInt = (aZ H 7 j).toInt; rw [(fr 7 (by decide)).2]
    have a2 : roX B j 2 = roX H j 2 := by show (aZ B 8 j).toInt = (aZ H 8 j).toInt; rw [(fr 8 (by decide)).2]
    have a3 : roX B j 3 = roX H j 3 := by show (aZ B 9 j).toInt = (aZ H 9 j).toInt; rw [(fr 9 (by decide)).2]
    have a4 : roX B j 4 = roX H j 4 := by show (aZ B 10 j).toInt = (aZ H 10 j).toInt; rw [(fr 10 (by decide)).2]
    have a5 : hoX B j = hoX H j := by show (aZ B 26 j).toInt = (aZ H 26 j).toInt; rw [(fr 26 (by decide)).2]
    unfold rwO at k ⊢
    rw [a1, a2, a3, a4, a5]
    exact k
  · rw [ot_kp fr, e]
    exact ot_cg (fun j _ => eh j)
theorem at_h {f : Nat → Int} {B1 B2 : mzH} {k h : Int32} (e2 : ∀ j, (aZ B1 52 j).toInt = f j) (hI : gI SX B1) (eS : B2 = sA B1 52 k.toInt.toNat h) (hk : 0 ≤ k.toInt ∧ k.toInt ≤ 59) : ∀ j : Nat, (aZ B2 52 j).toInt = upi f k.toInt.toNat h.toInt j := fun j => by
  unfold upi
  if c : j = k.toInt.toNat then rw [if_pos c, eS, c, aZ_sA_eq hI sx_52 (by omega)]
  else rw [if_neg c, eS, aZ_sA_ne (by omega), e2]
theorem up_b {f : Nat → Int} {N k : Nat} {h : Int} (hb : ∀ j : Nat, j < N → 0 ≤ f j ∧ f j ≤ 999) (hh : 0 ≤ h ∧ h ≤ 999) : ∀ j : Nat, j < N → 0 ≤ upi f k h j ∧ upi f k h j ≤ 999 := fun j hj => by
  unfold upi
  split
  · exact hh
  · exact hb j hj
theorem gdY_h {H : mzH} (h : gdY H) : ∀ j : Nat, j < (fZ H 3 9).toInt.toNat → 0 ≤ (aZ H 6 j).toInt ∧ (aZ H 6 j).toInt ≤ 999 := fun j hj => by
  obtain ⟨⟨h0, h00, h01⟩, h1, h2⟩ := h
  have k : 0 ≤ (aZ H 26 j).toInt ∧ (aZ H 26 j).toInt ≤ 999 := (h2 j (by omega)).2.2.2.2.1
  rw [h01] at k
  exact k
