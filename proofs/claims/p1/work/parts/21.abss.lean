/-! WHAT A RUN WITH UNKNOWN INTS SAYS: for every choice of them the mini machine runs alike -/
def aV (ρ : Nat → Int32) (a c : Value) : Prop := match a with
  | .retAddr k => ∃ v : Int32, c = .int v ∧ (aLo k ≤ v.toInt ∧ v.toInt ≤ aHi k) ∧ (aId k = 0 ∨ v = ρ (aId k))
  | a => c = a
def aL (ρ : Nat → Int32) : List Value → List Value → Prop
  | [], w => w = []
  | v :: vs, w => ∃ x xs, w = x :: xs ∧ aV ρ v x ∧ aL ρ vs xs
def aM (ρ : Nat → Int32) : mzL → mzL → Prop
  | [], w => w = []
  | q :: vs, w => ∃ x xs, w = (q.1, x) :: xs ∧ aV ρ q.2 x ∧ aM ρ vs xs
def aO (ρ : Nat → Int32) (v w : Option Value) : Prop := match v with
  | none => w = none
  | some v => ∃ x, w = some x ∧ aV ρ v x
def aC (ρ : Nat → Int32) (a c : mzC) : Prop := match a with
  | .inl x => c = .inl x
  | .inr (d, fs) => (d < 100 ∧ ∃ fs', c = .inr (d, fs') ∧ aL ρ fs fs') ∨ (100 ≤ d ∧ ∃ l : List Int32, c = .inl (d - 100, l) ∧ fs = [.ref l.length])
def aH (ρ : Nat → Int32) : mzH → mzH → Prop
  | [], w => w = []
  | v :: vs, w => ∃ x xs, w = x :: xs ∧ aC ρ v x ∧ aH ρ vs xs
section
variable {ρ : Nat → Int32}
theorem aV_cat {v w : Value} (h : aV ρ v w) : w.category = v.category := by
  cases v with
  | retAddr k =>
    obtain ⟨x, rfl, -⟩ := h
    rfl
  | _ =>
    have e : w = _ := h
    rw [e]
theorem a_top (v : Int32) : aV ρ (.retAddr aT) (.int v) := by
  refine ⟨v, rfl, ⟨?_, ?_⟩, Or.inl (by decide +kernel)⟩
  · have h : aLo aT = -2147483648 := by decide +kernel
    rw [h]
    exact Int32.le_toInt v
  · have h : aHi aT = 2147483647 := by decide +kernel
    rw [h]
    have := Int32.toInt_lt v
    omega
theorem a_int {v w : Value} (h : aIsI v = true) (hv : aV ρ v w) : ∃ x : Int32, w = .int x := by
  cases v with
  | retAddr k =>
    obtain ⟨x, rfl, -⟩ := hv
    exact ⟨x, rfl⟩
  | int x => exact ⟨x, hv⟩
  | _ => cases h
theorem aL_len : ∀ {v w : List Value}, aL ρ v w → w.length = v.length
  | [], _, h => by rw [show _ = [] from h]
  | _ :: _, _, ⟨x, xs, e, _, h2⟩ => by rw [e]; simp [aL_len h2]
theorem aL_at : ∀ {v w : List Value} {k : Nat} {a : Value}, aL ρ v w → v[k]? = some a → ∃ b, w[k]? = some b ∧ aV ρ a b
  | [], _, k, a, _, hk => by simp at hk
  | v :: vs, _, 0, a, ⟨x, xs, e, h1, h2⟩, hk => by
    simp only [List.getElem?_cons_zero, Option.some.injEq] at hk
    subst hk; subst e
    exact ⟨x, rfl, h1⟩
  | v :: vs, _, k + 1, a, ⟨x, xs, e, h1, h2⟩, hk => by
    simp only [List.getElem?_cons_succ] at hk
    subst e
    simp only [List.getElem?_cons_succ]
    exact aL_at h2 hk
theorem aL_set : ∀ {v w : List Value} {k : Nat} {a b : Value}, aL ρ v w → aV ρ a b → aL ρ (v.set k a) (w.set k b)
  | [], _, k, a, b, h, _ => by rw [show _ = [] from h]; simp [aL]
  | v :: vs, _, 0, a, b, ⟨x, xs, e, h1, h2⟩, hk => by
    subst e
    exact ⟨b, xs, rfl, hk, h2⟩
  | v :: vs, _, k + 1, a, b, ⟨x, xs, e, h1, h2⟩, hk => by
    subst e
    exact ⟨x, xs.set k b, rfl, h1, aL_set h2 hk⟩
theorem aL_take : ∀ {v w : List Value} (n : Nat), aL ρ v w → aL ρ (v.take n) (w.take n)
  | _, _, 0, _ => by simp [aL]
  | [], _, n + 1, h => by rw [show _ = [] from h]; simp [aL]
  | v :: vs, _, n + 1, ⟨x, xs, e, h1, h2⟩ => by
    subst e
    exact ⟨x, xs.take n, rfl, h1, aL_take n h2⟩
theorem aL_drop : ∀ {v w : List Value} (n : Nat), aL ρ v w → aL ρ (v.drop n) (w.drop n)
  | _, _, 0, h => by simpa using h
  | [], _, n + 1, h => by rw [show _ = [] from h]; simp [aL]
  | v :: vs, _, n + 1, ⟨x, xs, e, h1, h2⟩ => by
    subst e
    simpa using aL_drop n h2
theorem aL_app : ∀ {v w v2 w2 : List Value}, aL ρ v w → aL ρ v2 w2 → aL ρ (v ++ v2) (w ++ w2)
  | [], _, _, _, h, h2 => by rw [show _ = [] from h]; simpa using h2
  | v :: vs, _, _, _, ⟨x, xs, e, h1, h2⟩, h3 => by
    subst e
    exact ⟨x, xs ++ _, rfl, h1, aL_app h2 h3⟩
theorem aL_rev : ∀ {v w : List Value}, aL ρ v w → aL ρ v.reverse w.reverse
  | [], _, h => by rw [show _ = [] from h]; simp [aL]
  | v :: vs, _, ⟨x, xs, e, h1, h2⟩ => by
    subst e
    rw [List.reverse_cons, List.reverse_cons]
    exact aL_app (aL_rev h2) ⟨x, [], rfl, h1, rfl⟩
theorem aL_wd : ∀ {v w : List Value}, aL ρ v w → mzWd w = mzWd v
  | [], _, h => by rw [show _ = [] from h]
  | v :: vs, _, ⟨x, xs, e, h1, h2⟩ => by
    subst e
    have := aL_wd h2
    simp only [mzWd, List.map_cons, List.sum_cons] at this ⊢
    rw [this, aV_cat h1]
theorem aL_opt {v w : Option Value} (h : aO ρ v w) : aL ρ v.toList w.toList := by
  cases v with
  | none =>
    have e : w = none := h
    subst e
    rfl
  | some v =>
    obtain ⟨x, rfl, h⟩ := h
    exact ⟨x, [], rfl, h, rfl⟩
theorem aM_get {i : Nat} {v : Value} : ∀ {l l' : mzL}, aM ρ l l' → mzGet i l = some v → ∃ w, mzGet i l' = some w ∧ aV ρ v w
  | [], _, _, h => by cases h
  | q :: l, _, ⟨x, xs, e, h1, h2⟩, h => by
    subst e
    obtain ⟨k, u⟩ := q
    rw [mzGet_cons] at h ⊢
    cases hb : Nat.beq k i with
    | true =>
      rw [hb] at h
      cases h
      exact ⟨x, rfl, h1⟩
    | false =>
      rw [hb] at h
      exact aM_get h2 h
theorem aM_filter (p : Nat × Value → Bool) (hp : ∀ (k : Nat) (v w : Value), w.category = v.category → p (k, v) = p (k, w)) : ∀ {l l' : mzL}, aM ρ l l' → aM ρ (l.filter p) (l'.filter p)
  | [], _, h => by rw [show _ = [] from h]; simp [aM]
  | q :: l, _, ⟨x, xs, e, h1, h2⟩ => by
    subst e
    have e1 : p q = p (q.1, x) := hp q.1 q.2 x (aV_cat h1)
    have h3 := aM_filter p hp h2
    simp only [List.filter_cons, ← e1]
    split
    · exact ⟨x, _, rfl, h1, h3⟩
    · exact h3
theorem aM_st1 {i : Nat} {v w : Value} {l l' : mzL} (h : aM ρ l l') (hv : aV ρ v w) : aM ρ (mzSt1 i v l) (mzSt1 i w l') := by
  unfold mzSt1
  rw [mzFl1_eq, mzFl1_eq]
  exact ⟨w, _, rfl, hv, aM_filter _ (fun a v w h => by simp only [h]) h⟩
theorem aM_st2 {i : Nat} {v w : Value} {l l' : mzL} (h : aM ρ l l') (hv : aV ρ v w) : aM ρ (mzSt2 i v l) (mzSt2 i w l') := by
  unfold mzSt2
  rw [mzFl2_eq, mzFl2_eq]
  exact ⟨w, _, rfl, hv, aM_filter _ (fun a v w h => by simp only [h]) h⟩
theorem aM_args : ∀ {vs ws : List Value} (i : Nat), aL ρ vs ws → aM ρ (lv_args i vs) (lv_args i ws)
  | [], _, i, h => by rw [show _ = [] from h]; simp [lv_args, aM]
  | v :: vs, _, i, ⟨x, xs, e, h1, h2⟩ => by
    subst e
    simp only [lv_args, aV_cat h1]
    exact ⟨x, _, rfl, h1, aM_args _ h2⟩
theorem aH_at : ∀ {v w : mzH} {k : Nat} {a : mzC}, aH ρ v w → mzNq v k = some a → ∃ b, mzNq w k = some b ∧ aC ρ a b
  | [], _, k, a, _, hk => by cases hk
  | v :: vs, _, 0, a, ⟨x, xs, e, h1, h2⟩, hk => by
    cases hk; subst e
    exact ⟨x, rfl, h1⟩
  | v :: vs, _, k + 1, a, ⟨x, xs, e, h1, h2⟩, hk => by
    subst e
    exact aH_at (k := k) h2 hk
theorem aH_set : ∀ {v w : mzH} {k : Nat} {a b : mzC}, aH ρ v w → aC ρ a b → aH ρ (mzSet v k a) (mzSet w k b)
  | [], _, k, a, b, h, _ => by rw [show _ = [] from h]; simp [aH, mzSet]
  | v :: vs, _, 0, a, b, ⟨x, xs, e, h1, h2⟩, hk => by
    subst e
    exact ⟨b, xs, rfl, hk, h2⟩
  | v :: vs, _, k + 1, a, b, ⟨x, xs, e, h1, h2⟩, hk => by
    subst e
    exact ⟨x, mzSet xs k b, rfl, h1, aH_set h2 hk⟩
theorem aH_set0 {w : mzH} {k : Nat} {b : mzC} : ∀ {v : mzH}, aH ρ v w → (∀ a, mzNq v k = some a → aC ρ a b) → aH ρ v (mzSet w k b) := by
  intro v
  induction v generalizing w k with
  | nil => intro h _; rw [show w = [] from h]; rfl
  | cons a v ih =>
    intro ⟨x, xs, e, h1, h2⟩ hk
    subst e
    cases k with
    | zero => exact ⟨b, xs, rfl, hk a rfl, h2⟩
    | succ k => exact ⟨x, mzSet xs k b, rfl, h1, ih h2 (fun a h => hk a h)⟩
theorem a_iv {v w : Value} {lo hi : Int} (h1 : aVlo v = some lo) (h2 : aVhi v = some hi) (hv : aV ρ v w) : ∃ x : Int32, w = .int x ∧ lo ≤ x.toInt ∧ x.toInt ≤ hi := by
  cases v with
  | retAddr k =>
    obtain ⟨x, rfl, ⟨h3, h4⟩, -⟩ := hv
    cases h1; cases h2
    exact ⟨x, rfl, h3, h4⟩
  | int x =>
    have e : w = .int x := hv
    subst e
    cases h1; cases h2
    exact ⟨x, rfl, Int.le_refl _, Int.le_refl _⟩
  | _ => cases h1
theorem a_cnd {q : ClassFile.Cond} {l1 h1 l2 h2 : Int} {t : Bool} (h : aCnd q l1 h1 l2 h2 = some t) {x y : Int32} (a1 : l1 ≤ x.toInt) (a2 : x.toInt ≤ h1) (b1 : l2 ≤ y.toInt) (b2 : y.toInt ≤ h2) : mzCnd q x y = t := by
  unfold aCnd at h
  rw [mzCnd_eq]
  cases q <;> dsimp only at h <;>
  · simp only [cond_eq_if] at h
    split at h
    · cases h
      simp only [Bool.or_eq_true, decide_eq_true_eq] at *
      simp [← Int32.toInt_inj, Int32.lt_iff_toInt_lt, Int32.le_iff_toInt_le]
      omega
    · split at h
      · cases h
        simp only [Bool.or_eq_true, Bool.and_eq_true, decide_eq_true_eq] at *
        simp [← Int32.toInt_inj, Int32.lt_iff_toInt_lt, Int32.le_iff_toInt_le]
        omega
      · cases h
theorem a_rel {q : ClassFile.Cond} {a b : Value} {t : Bool} (hr : ρ 1 < ρ 2 ∧ ¬ ρ 4 < ρ 3) (h : aRel q (aIdv a) (aIdv b) = some t) {x y : Int32} (ha : aV ρ a (.int x)) (hb : aV ρ b (.int y)) : mzCnd q x y = t := by
  rw [mzCnd_eq]
  cases a with
  | retAddr k =>
    cases b with
    | retAddr m =>
      obtain ⟨_, e1, -, h1⟩ := ha
      obtain ⟨_, e2, -, h2⟩ := hb
      cases e1; cases e2
      unfold aRel aIdv at h
      dsimp only at h
      split at h
      · rename_i e3 e4
        cases h
        rw [e3] at h1; rw [e4] at h2
        rcases h1 with h1 | h1
        · cases h1
        · rcases h2 with h2 | h2
          · cases h2
          · rw [h1, h2]; simp [hr.1]
      · rename_i e3 e4
        cases h
        rw [e3] at h1; rw [e4] at h2
        rcases h1 with h1 | h1
        · cases h1
        · rcases h2 with h2 | h2
          · cases h2
          · rw [h1, h2]; simp [hr.1]
      · rename_i e3 e4
        cases h
        rw [e3] at h1; rw [e4] at h2
        rcases h1 with h1 | h1
        · cases h1
        · rcases h2 with h2 | h2
          · cases h2
          · rw [h1, h2]; simp [hr.2]
      · rename_i e3 e4
        cases h
        rw [e3] at h1; rw [e4] at h2
        rcases h1 with h1 | h1
        · cases h1
        · rcases h2 with h2 | h2
          · cases h2
          · rw [h1, h2]; simpa using hr.2
      · cases h
    | _ => unfold aRel aIdv at h; split at h <;> first | (cases h; done) | (rename_i e; cases e)
  | _ => unfold aRel aIdv at h; split at h <;> first | (cases h; done) | (rename_i e _; cases e)
theorem a_cmp (hr : ρ 1 < ρ 2 ∧ ¬ ρ 4 < ρ 3) {q : ClassFile.Cond} {a b a' b' : Value} {t : Bool} (h : aCmp q a b = some t) (ha : aV ρ a a') (hb : aV ρ b b') : ∃ x y : Int32, a' = .int x ∧ b' = .int y ∧ mzCnd q x y = t := by
  unfold aCmp at h
  split at h
  · rename_i x y
    cases h
    exact ⟨x, y, ha, hb, rfl⟩
  · split at h
    · rename_i l1 h1 l2 h2 e1 e2 e3 e4
      obtain ⟨x, rfl, a1, a2⟩ := a_iv e1 e2 ha
      obtain ⟨y, rfl, b1, b2⟩ := a_iv e3 e4 hb
      split at h
      · rename_i e9
        cases h
        exact ⟨x, y, rfl, rfl, a_cnd e9 a1 a2 b1 b2⟩
      · exact ⟨x, y, rfl, rfl, a_rel hr h ha hb⟩
    · cases h
theorem aAll_at {l : List Int32} {v : Int32} (h : aAll l = some v) {k : Nat} (hk : k < l.length) : l[k]? = some v := by
  cases l with
  | nil => cases h
  | cons x l =>
    unfold aAll at h
    obtain ⟨h1, h2⟩ := z_bif h
    cases h2
    simp only [List.all_eq_true, decide_eq_true_eq] at h1
    cases k with
    | zero => rfl
    | succ k =>
      simp only [List.length_cons, Nat.add_lt_add_iff_right] at hk
      rw [List.getElem?_cons_succ, List.getElem?_eq_getElem hk, h1 _ (List.getElem_mem hk)]
theorem a_ix {l : List Int32} {i : Int32} (h1 : 0 ≤ i.toInt) (h2 : i.toInt < l.length) : ∃ v, mzIx l i = some v ∧ l[i.toNatClampNeg]? = some v ∧ i.toNatClampNeg < l.length := by
  have e : i.toNatClampNeg = i.toInt.toNat := rfl
  have hl : i.toNatClampNeg < l.length := by omega
  refine ⟨l[i.toNatClampNeg], ?_, List.getElem?_eq_getElem hl, hl⟩
  unfold mzIx
  obtain ⟨h3, h4⟩ := mzN_ge h1
  rw [h3, h4, mzNq_eq, List.getElem?_eq_getElem hl]
  rfl
end
