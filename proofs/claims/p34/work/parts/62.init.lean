/-! THE NEW OBJECTS ARE OF THE SHAPES -/
def gFk : gFs → Value → Bool
  | .inl q, .ref r => Nat.beq r q
  | .inr (lo, hi), .int z => decide (lo ≤ z.toInt) && decide (z.toInt ≤ hi)
  | _, _ => false
def gFl : List gFs → List Value → Bool
  | [], [] => true
  | f :: fs, v :: vs => gFk f v && gFl fs vs
  | _, _ => false
def gCk : gSp → mzC → Bool
  | .inl (d, n, lo, hi), .inl (e, k) => Nat.beq e d && (Nat.beq k.length n && k.all (fun v => decide (lo ≤ v.toInt) && decide (v.toInt ≤ hi)))
  | .inr (d, fs), .inr (e, vs) => Nat.beq e d && gFl fs vs
  | _, _ => false
def gIk : List gSp → mzH → Bool
  | [], [] => true
  | s :: S, c :: H => gCk s c && gIk S H
  | _, _ => false
theorem gFk_at {f : gFs} {v : Value} (h : gFk f v = true) : gFo f v := by
  unfold gFk at h
  split at h
  · exact congrArg Value.ref (Nat.eq_of_beq_eq_true h)
  · rename_i lo hi z
    rw [Bool.and_eq_true, decide_eq_true_eq, decide_eq_true_eq] at h
    exact ⟨z, rfl, h.1, h.2⟩
  · cases h
theorem gFl_at : ∀ {fs : List gFs} {vs : List Value}, gFl fs vs = true → vs.length = fs.length ∧ ∀ (i : Nat) f, fs[i]? = some f → ∃ v, vs[i]? = some v ∧ gFo f v
  | [], [], _ => ⟨rfl, fun i f h => by simp at h⟩
  | f :: fs, v :: vs, h => by
    simp only [gFl, Bool.and_eq_true] at h
    obtain ⟨h1, h2⟩ := gFl_at h.2
    refine ⟨by simp [h1], fun i g hg => ?_⟩
    cases i with
    | zero =>
      simp only [List.getElem?_cons_zero, Option.some.injEq] at hg
      subst hg
      exact ⟨v, rfl, gFk_at h.1⟩
    | succ i =>
      simp only [List.getElem?_cons_succ] at hg ⊢
      exact h2 i g hg
  | [], _ :: _, h => by cases h
  | _ :: _, [], h => by cases h
theorem gCk_at {s : gSp} {c : mzC} (h : gCk s c = true) : gCo s c := by
  unfold gCk at h
  split at h
  · rename_i d n lo hi e k
    simp only [Bool.and_eq_true, List.all_eq_true, decide_eq_true_eq] at h
    exact ⟨Nat.eq_of_beq_eq_true h.1, Nat.eq_of_beq_eq_true h.2.1, h.2.2⟩
  · rename_i d fs e vs
    rw [Bool.and_eq_true] at h
    exact ⟨Nat.eq_of_beq_eq_true h.1, gFl_at h.2⟩
  · cases h
theorem gI_at : ∀ {S : List gSp} {H : mzH}, gIk S H = true → gI S H
  | [], [], _ => ⟨rfl, fun a sp h => by simp at h⟩
  | s :: S, c :: H, h => by
    simp only [gIk, Bool.and_eq_true] at h
    obtain ⟨h1, h2⟩ := gI_at h.2
    refine ⟨by simp [h1], fun a sp ha => ?_⟩
    cases a with
    | zero =>
      simp only [List.getElem?_cons_zero, Option.some.injEq] at ha
      subst ha
      exact ⟨c, rfl, gCk_at h.1⟩
    | succ a =>
      simp only [List.getElem?_cons_succ] at ha ⊢
      exact h2 a sp ha
  | [], _ :: _, h => by cases h
  | _ :: _, [], h => by cases h
set_option maxRecDepth 100000 in
theorem zHx_gI : gI SX zHx := gI_at (by decide +kernel)
set_option maxRecDepth 100000 in
theorem zHm_gI : gI SM zHm := gI_at (by decide +kernel)
set_option maxRecDepth 100000 in
theorem zHx_J : JX zHx := by
  unfold JX JB
  decide +kernel
set_option maxRecDepth 100000 in
theorem zHm_z2 : ∀ k, k < 60 → (aZ zHm 2 (70 + 5 * k) = 0 ∧ aZ zHm 2 (71 + 5 * k) = 0 ∧ aZ zHm 2 (72 + 5 * k) = 0 ∧ aZ zHm 2 (73 + 5 * k) = 0) := by decide +kernel
set_option maxRecDepth 100000 in
theorem zHm_z3 : ∀ k, k < 60 → (aZ zHm 3 (70 + 5 * k) = 0 ∧ aZ zHm 3 (71 + 5 * k) = 0 ∧ aZ zHm 3 (72 + 5 * k) = 0 ∧ aZ zHm 3 (73 + 5 * k) = 0) := by decide +kernel
set_option maxRecDepth 100000 in
theorem zHm_z0 : (0 ≤ (aZ zHm 2 0).toInt ∧ (aZ zHm 2 0).toInt ≤ 8) ∧ (0 ≤ (aZ zHm 2 2).toInt ∧ (aZ zHm 2 2).toInt ≤ 60) ∧ (0 ≤ (aZ zHm 3 0).toInt ∧ (aZ zHm 3 0).toInt ≤ 8) ∧ (0 ≤ (aZ zHm 3 2).toInt ∧ (aZ zHm 3 2).toInt ≤ 60) := by decide +kernel
theorem zHm_J : JN zHm := by
  refine ⟨⟨zHm_z0.1, zHm_z0.2.1, fun k hk => ?_⟩, ⟨zHm_z0.2.2.1, zHm_z0.2.2.2, fun k hk => ?_⟩⟩
  · obtain ⟨h1, h2, h3, h4⟩ := zHm_z2 k hk
    unfold WR
    rw [h1, h2, h3, h4]
    decide
  · obtain ⟨h1, h2, h3, h4⟩ := zHm_z3 k hk
    unfold WR
    rw [h1, h2, h3, h4]
    decide
