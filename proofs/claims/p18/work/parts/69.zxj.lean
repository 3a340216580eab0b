/-! SETTLING, THE VERDICTS -/
theorem ordF_srt {hr : Nat → Int} (n : Nat) : srt hr n (ordF hr n) := by
  have e := ord2_all (I := fun _ => 1) (hr := hr) n (fun _ _ => rfl)
  obtain ⟨a1, a2⟩ := ord2_ok (I := fun _ => 1) (hr := hr) n
  rw [e] at a1
  exact a1
theorem od_inj {H : mzH} {q p : Nat} (h : cvX H) (hp : p < (fZ H 3 9).toInt.toNat) (hq : q < p) : odX H q ≠ odX H p := by
  obtain ⟨_, _, h3⟩ := h
  unfold odX
  rw [h3 q (by omega), h3 p hp, Int.toNat_natCast, Int.toNat_natCast]
  intro e
  have z := ordF_srt (hr := fun i => (aZ H 6 i).toInt) (fZ H 3 9).toInt.toNat q p hq hp
  rw [e] at z
  exact kLt_irr z
/-- the book's rows are in order -/
def gdB (H : mzH) : Prop := (0 ≤ (fZ H 3 9).toInt ∧ (fZ H 3 9).toInt ≤ 60) ∧ ∀ j : Nat, j < (fZ H 3 9).toInt.toNat → rwO 8 (roX H) (fun k => (aZ H 6 k).toInt) j
/-- book and course are as they were -/
def kpW (H B : mzH) : Prop := ∀ c, ((3 ≤ c ∧ c ≤ 10) ∨ (25 ≤ c ∧ c ≤ 27)) → (∀ f, fZ B c f = fZ H c f) ∧ (∀ i, aZ B c i = aZ H c i)
theorem kpW_X {H B : mzH} (k : kpX H B) : kpW H B := fun c hc => k c (by omega)
theorem wyX_kw {H A : mzH} (fr : kpW H A) : wyX A = wyX H := by
  funext a b
  unfold wyX
  rw [(fr 3 (by decide)).1, (fr 5 (by decide)).2]
theorem row_kw {H B : mzH} (k : kpW H B) : odX B = odX H ∧ hoX B = hoX H ∧ ∀ j, roX B j 1 = roX H j 1 ∧ roX B j 2 = roX H j 2 ∧ roX B j 3 = roX H j 3 ∧ roX B j 4 = roX H j 4 := by
  refine ⟨?_, ?_, fun j => ⟨?_, ?_, ?_, ?_⟩⟩
  · funext p; unfold odX; rw [(k 27 (by decide)).2]
  · funext p; unfold hoX; rw [(k 26 (by decide)).2]
  · show (aZ B 7 j).toInt = (aZ H 7 j).toInt; rw [(k 7 (by decide)).2]
  · show (aZ B 8 j).toInt = (aZ H 8 j).toInt; rw [(k 8 (by decide)).2]
  · show (aZ B 9 j).toInt = (aZ H 9 j).toInt; rw [(k 9 (by decide)).2]
  · show (aZ B 10 j).toInt = (aZ H 10 j).toInt; rw [(k 10 (by decide)).2]
/-- the verdicts kept are those of the course -/
def whE (H : mzH) : Prop := ∀ q, q < (fZ H 25 2).toInt.toNat → (aZ H 42 (odX H q)).toInt = vdX H q
def cvW (H : mzH) : Prop := cvX H ∧ (gdY H → whE H)
