/-! THE REFERENCE'S BLAME -/
/-- the first of those at which w is least -/
def blW (w : Nat → Int) (n : Nat) (o l : Int) : Prop := (n = 0 ∧ o = -1) ∨ (∃ a, a < n ∧ o = (a : Int) ∧ l = w a ∧ ∀ b, b < n → w a < w b ∨ (w a = w b ∧ a ≤ b))
def blV (w : Nat → Int) (n : Nat) (k v : Int) : Prop := ∃ o l, blW w n o l ∧ ((o = -1 ∧ v = -2) ∨ (¬ o = -1 ∧ v = if k = 0 then o else l))
theorem blw_0 {w : Nat → Int} {n : Nat} {o l : Int} (e : n = 0) (h : o = -1) : blW w n o l := Or.inl ⟨e, h⟩
theorem blw_y {w : Nat → Int} {n n2 : Nat} {o l o2 l2 : Int} (q : blW w n o l) (e : n2 = n + 1) (c : o = -1 ∨ w n < l) (ho : o2 = (n : Int)) (hl : l2 = w n) : blW w n2 o2 l2 := by
  subst e ho hl
  refine Or.inr ⟨n, by omega, rfl, rfl, fun b hb => ?_⟩
  if d : b = n then
    subst d
    exact Or.inr ⟨rfl, Nat.le_refl _⟩
  else
    rcases q with ⟨q1, _⟩ | ⟨a, a1, a2, a3, a4⟩
    · omega
    · left
      have z := a4 b (by omega)
      omega
theorem blw_n {w : Nat → Int} {n n2 : Nat} {o l o2 l2 : Int} (q : blW w n o l) (e : n2 = n + 1) (c : ¬ (o = -1 ∨ w n < l)) (ho : o2 = o) (hl : l2 = l) : blW w n2 o2 l2 := by
  subst e ho hl
  rcases q with ⟨_, q2⟩ | ⟨a, a1, a2, a3, a4⟩
  · exact absurd (Or.inl q2) c
  · refine Or.inr ⟨a, by omega, a2, a3, fun b hb => ?_⟩
    if d : b = n then
      subst d
      omega
    else exact a4 b (by omega)
theorem pb_kp {H B : mzH} {w : Nat → Int} (k : kpM H B) (h : (∀ m : Nat, (m : Int) < (aZ H 2 2).toInt → ∀ A : mzH, tkQ H A → (∀ q : Nat, (q : Int) < (aZ H 2 2).toInt → (inM A q ≠ 0 ↔ ¬ (q : Int) = (m : Int)) ∧ hoM A q = (aZ H 2 (69 + 5 * q)).toInt) → ∀ G : mzH, clR (rgM G) (mdM G) → cnt (fun x => ¬ rvM A G x = 0) (cnM A) = w m)) : (∀ m : Nat, (m : Int) < (aZ B 2 2).toInt → ∀ A : mzH, tkQ B A → (∀ q : Nat, (q : Int) < (aZ B 2 2).toInt → (inM A q ≠ 0 ↔ ¬ (q : Int) = (m : Int)) ∧ hoM A q = (aZ B 2 (69 + 5 * q)).toInt) → ∀ G : mzH, clR (rgM G) (mdM G) → cnt (fun x => ¬ rvM A G x = 0) (cnM A) = w m) := fun m hm A t sb G cG => by
  rw [k.1 2 (by decide)] at hm
  refine h m hm A (tkQ_kp k t) (sb_kp k sb) G cG
