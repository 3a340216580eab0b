/-! THE MINI MACHINE'S STATE AGAINST THE MACHINE'S: values by the cells' addresses -/
def zad (ws : va_W) : List Nat := ws.map Prod.fst
theorem zad_at {ws : va_W} {k a : Nat} (h : (zad ws)[k]? = some a) : ∃ e, ws[k]? = some (a, e) := by
  unfold zad at h
  rw [List.getElem?_map] at h
  cases e : ws[k]? with
  | none => rw [e] at h; cases h
  | some q =>
    rw [e] at h
    obtain ⟨b, x⟩ := q
    simp only [Option.map_some, Option.some.injEq] at h
    exact ⟨x, by rw [h]⟩
theorem zad_of {ws : va_W} {k a : Nat} {e : va_E} (h : ws[k]? = some (a, e)) : (zad ws)[k]? = some a := by
  unfold zad
  rw [List.getElem?_map, h]
  rfl
theorem zad_set {ws : va_W} {k a : Nat} {e e' : va_E} (h : ws[k]? = some (a, e)) : zad (ws.set k (a, e')) = zad ws := by
  unfold zad
  apply List.ext_getElem?
  intro i
  simp only [List.getElem?_map, List.getElem?_set]
  by_cases hi : k = i
  · subst hi
    obtain ⟨hl, he⟩ := List.getElem?_eq_some_iff.mp h
    simp [hl, he]
  · simp [hi]
def zrV (ad : List Nat) (v w : Value) : Prop := match v with
  | .ref k => ∃ a, ad[k]? = some a ∧ w = .ref a
  | v => w = v
def zrL (ad : List Nat) : List Value → List Value → Prop
  | [], w => w = []
  | v :: vs, w => ∃ x xs, w = x :: xs ∧ zrV ad v x ∧ zrL ad vs xs
def zrM (ad : List Nat) : mzL → mzL → Prop
  | [], w => w = []
  | q :: vs, w => ∃ x xs, w = (q.1, x) :: xs ∧ zrV ad q.2 x ∧ zrM ad vs xs
def zrO (ad : List Nat) (v w : Option Value) : Prop := match v with
  | none => w = none
  | some v => ∃ x, w = some x ∧ zrV ad v x
def zrC (ad : List Nat) (tys : List (ClassId × FieldType)) (c : mzC) (e : va_E) : Prop := match c with
  | .inl (d, l) => ∃ cA : ClassId, (cA, mzTy d) ∈ tys ∧ e = .inl (cA, l.length, .inl (fun k => l.getD k 0))
  | .inr (ci, fs) => ∃ fs', e = .inr (ci, fs') ∧ zrL ad fs fs'
def zrH (tys : List (ClassId × FieldType)) (H : mzH) (ws : va_W) : Prop := ws.length = H.length ∧ ∀ (k : Nat) (c : mzC), H[k]? = some c → ∃ (a : Nat) (e : va_E), ws[k]? = some (a, e) ∧ zrC (zad ws) tys c e
theorem zrV_cat {ad : List Nat} {v w : Value} (h : zrV ad v w) : w.category = v.category := by
  cases v with
  | ref k =>
    obtain ⟨a, -, rfl⟩ := h
    rfl
  | _ =>
    have e : w = _ := h
    rw [e]
theorem zpre_at {ad ad' : List Nat} (h : ad <+: ad') {k a : Nat} (hk : ad[k]? = some a) : ad'[k]? = some a := by
  obtain ⟨t, rfl⟩ := h
  rw [List.getElem?_append_left (List.getElem?_eq_some_iff.mp hk).1]
  exact hk
theorem zrV_mono {ad ad' : List Nat} (h : ad <+: ad') {v w : Value} (hv : zrV ad v w) : zrV ad' v w := by
  cases v with
  | ref k =>
    obtain ⟨a, h1, h2⟩ := hv
    exact ⟨a, zpre_at h h1, h2⟩
  | _ => exact hv
theorem zrL_mono {ad ad' : List Nat} (h : ad <+: ad') : ∀ {v w : List Value}, zrL ad v w → zrL ad' v w
  | [], _, hv => hv
  | _ :: _, _, ⟨x, xs, e, h1, h2⟩ => ⟨x, xs, e, zrV_mono h h1, zrL_mono h h2⟩
theorem zrM_mono {ad ad' : List Nat} (h : ad <+: ad') : ∀ {v w : mzL}, zrM ad v w → zrM ad' v w
  | [], _, hv => hv
  | _ :: _, _, ⟨x, xs, e, h1, h2⟩ => ⟨x, xs, e, zrV_mono h h1, zrM_mono h h2⟩
theorem zrC_mono {ad ad' : List Nat} {tys tys' : List (ClassId × FieldType)} (h : ad <+: ad') (ht : ∀ q ∈ tys, q ∈ tys') {c : mzC} {e : va_E} (hc : zrC ad tys c e) : zrC ad' tys' c e := by
  cases c with
  | inl x =>
    obtain ⟨cA, h1, h2⟩ := hc
    exact ⟨cA, ht _ h1, h2⟩
  | inr x =>
    obtain ⟨fs, h1, h2⟩ := hc
    exact ⟨fs, h1, zrL_mono h h2⟩
theorem zrL_len {ad : List Nat} : ∀ {v w : List Value}, zrL ad v w → w.length = v.length
  | [], _, h => by rw [show _ = [] from h]
  | _ :: _, _, ⟨x, xs, e, _, h2⟩ => by rw [e]; simp [zrL_len h2]
theorem zrL_at {ad : List Nat} : ∀ {v w : List Value} {k : Nat} {a : Value}, zrL ad v w → v[k]? = some a → ∃ b, w[k]? = some b ∧ zrV ad a b
  | [], _, k, a, _, hk => by simp at hk
  | v :: vs, _, 0, a, ⟨x, xs, e, h1, h2⟩, hk => by
    simp only [List.getElem?_cons_zero, Option.some.injEq] at hk
    subst hk; subst e
    exact ⟨x, rfl, h1⟩
  | v :: vs, _, k + 1, a, ⟨x, xs, e, h1, h2⟩, hk => by
    simp only [List.getElem?_cons_succ] at hk
    subst e
    simp only [List.getElem?_cons_succ]
    exact zrL_at h2 hk
theorem zrL_set {ad : List Nat} : ∀ {v w : List Value} {k : Nat} {a b : Value}, zrL ad v w → zrV ad a b → zrL ad (v.set k a) (w.set k b)
  | [], _, k, a, b, h, _ => by rw [show _ = [] from h]; simp [zrL]
  | v :: vs, _, 0, a, b, ⟨x, xs, e, h1, h2⟩, hk => by
    subst e
    exact ⟨b, xs, rfl, hk, h2⟩
  | v :: vs, _, k + 1, a, b, ⟨x, xs, e, h1, h2⟩, hk => by
    subst e
    exact ⟨x, xs.set k b, rfl, h1, zrL_set h2 hk⟩
theorem zrL_take {ad : List Nat} : ∀ {v w : List Value} (n : Nat), zrL ad v w → zrL ad (v.take n) (w.take n)
  | _, _, 0, _ => by simp [zrL]
  | [], _, n + 1, h => by rw [show _ = [] from h]; simp [zrL]
  | v :: vs, _, n + 1, ⟨x, xs, e, h1, h2⟩ => by
    subst e
    exact ⟨x, xs.take n, rfl, h1, zrL_take n h2⟩
theorem zrL_drop {ad : List Nat} : ∀ {v w : List Value} (n : Nat), zrL ad v w → zrL ad (v.drop n) (w.drop n)
  | _, _, 0, h => by simpa using h
  | [], _, n + 1, h => by rw [show _ = [] from h]; simp [zrL]
  | v :: vs, _, n + 1, ⟨x, xs, e, h1, h2⟩ => by
    subst e
    simpa using zrL_drop n h2
theorem zrL_app {ad : List Nat} : ∀ {v w v2 w2 : List Value}, zrL ad v w → zrL ad v2 w2 → zrL ad (v ++ v2) (w ++ w2)
  | [], _, _, _, h, h2 => by rw [show _ = [] from h]; simpa using h2
  | v :: vs, _, _, _, ⟨x, xs, e, h1, h2⟩, h3 => by
    subst e
    exact ⟨x, xs ++ _, rfl, h1, zrL_app h2 h3⟩
theorem zrL_rev {ad : List Nat} : ∀ {v w : List Value}, zrL ad v w → zrL ad v.reverse w.reverse
  | [], _, h => by rw [show _ = [] from h]; simp [zrL]
  | v :: vs, _, ⟨x, xs, e, h1, h2⟩ => by
    subst e
    rw [List.reverse_cons, List.reverse_cons]
    exact zrL_app (zrL_rev h2) ⟨x, [], rfl, h1, rfl⟩
theorem zrL_cats {ad : List Nat} : ∀ {v w : List Value}, zrL ad v w → (w.map fun v => v.category).sum = mzWd v
  | [], _, h => by rw [show _ = [] from h]; rfl
  | v :: vs, _, ⟨x, xs, e, h1, h2⟩ => by
    subst e
    have := zrL_cats h2
    simp only [List.map_cons, List.sum_cons, mzWd] at this ⊢
    rw [this, zrV_cat h1]
theorem zrM_mem {ad : List Nat} {i : Nat} {v : Value} : ∀ {l l' : mzL}, zrM ad l l' → (i, v) ∈ l → ∃ w, zrV ad v w ∧ (i, w) ∈ l'
  | [], _, _, h => by cases h
  | q :: l, _, ⟨x, xs, e, h1, h2⟩, h => by
    subst e
    rcases List.mem_cons.mp h with h | h
    · subst h
      exact ⟨x, h1, List.mem_cons_self⟩
    · obtain ⟨w, a, b⟩ := zrM_mem h2 h
      exact ⟨w, a, List.mem_cons_of_mem _ b⟩
theorem zrM_filter {ad : List Nat} (p : Nat × Value → Bool) (hp : ∀ (k : Nat) (v w : Value), w.category = v.category → p (k, v) = p (k, w)) : ∀ {l l' : mzL}, zrM ad l l' → zrM ad (l.filter p) (l'.filter p)
  | [], _, h => by rw [show _ = [] from h]; simp [zrM]
  | q :: l, _, ⟨x, xs, e, h1, h2⟩ => by
    subst e
    have e1 : p q = p (q.1, x) := hp q.1 q.2 x (zrV_cat h1)
    have h3 := zrM_filter p hp h2
    simp only [List.filter_cons, ← e1]
    split
    · exact ⟨x, _, rfl, h1, h3⟩
    · exact h3
theorem zrM_args {ad : List Nat} : ∀ {vs ws : List Value} (i : Nat), zrL ad vs ws → zrM ad (lv_args i vs) (lv_args i ws)
  | [], _, i, h => by rw [show _ = [] from h]; simp [lv_args, zrM]
  | v :: vs, _, i, ⟨x, xs, e, h1, h2⟩ => by
    subst e
    simp only [lv_args, zrV_cat h1]
    exact ⟨x, _, rfl, h1, zrM_args _ h2⟩
theorem zsl_len (vs : List Value) : (lg_sl vs).length = (vs.map fun v => v.category).sum := by
  induction vs with
  | nil => rfl
  | cons v vs ih =>
    have e : lg_sl (v :: vs) = (if v.category = 2 then [.val v, .second] else [.val v]) ++ lg_sl vs := rfl
    rw [e, List.length_append, ih, List.map_cons, List.sum_cons]
    cases v <;> rfl
theorem zrH_get {tys : List (ClassId × FieldType)} {H : mzH} {ws : va_W} (h : zrH tys H ws) {k a : Nat} {c : mzC} (hk : H[k]? = some c) (ha : (zad ws)[k]? = some a) : ∃ e, ws[k]? = some (a, e) ∧ zrC (zad ws) tys c e := by
  obtain ⟨b, e, h1, h2⟩ := h.2 k c hk
  have h3 := zad_of h1
  rw [ha] at h3
  cases h3
  exact ⟨e, h1, h2⟩
theorem zrH_set {tys : List (ClassId × FieldType)} {H : mzH} {ws : va_W} (h : zrH tys H ws) {k a : Nat} {e0 e : va_E} {c : mzC} (hk : ws[k]? = some (a, e0)) (hc : zrC (zad ws) tys c e) : zrH tys (H.set k c) (ws.set k (a, e)) := by
  refine ⟨by simp [h.1], fun i d hi => ?_⟩
  rw [zad_set hk]
  have hl := (List.getElem?_eq_some_iff.mp hk).1
  by_cases hik : k = i
  · subst hik
    rw [List.getElem?_set_self (by rw [← h.1]; exact hl)] at hi
    cases hi
    exact ⟨a, e, by rw [List.getElem?_set_self hl], hc⟩
  · rw [List.getElem?_set_ne hik] at hi
    obtain ⟨b, e2, h1, h2⟩ := h.2 i d hi
    exact ⟨b, e2, by rw [List.getElem?_set_ne hik]; exact h1, h2⟩
theorem zad_push (ws : va_W) (q : Nat) (e : va_E) : zad (ws ++ [(q, e)]) = zad ws ++ [q] := by simp [zad]
theorem zrH_push {tys tys' : List (ClassId × FieldType)} {H : mzH} {ws : va_W} (h : zrH tys H ws) (ht : ∀ q ∈ tys, q ∈ tys') {q : Nat} {e : va_E} {c : mzC} (hc : zrC (zad ws ++ [q]) tys' c e) : zrH tys' (H ++ [c]) (ws ++ [(q, e)]) := by
  refine ⟨by simp [h.1], fun i d hi => ?_⟩
  rw [zad_push]
  by_cases hl : i < H.length
  · rw [List.getElem?_append_left hl] at hi
    obtain ⟨b, e2, h1, h2⟩ := h.2 i d hi
    exact ⟨b, e2, by rw [List.getElem?_append_left (by rw [h.1]; exact hl)]; exact h1, zrC_mono (List.prefix_append _ _) ht h2⟩
  · rw [List.getElem?_append_right (by omega)] at hi
    have hz : i - H.length < 1 := (List.getElem?_eq_some_iff.mp hi).1
    have hi0 : i = H.length := by omega
    subst hi0
    rw [Nat.sub_self] at hi
    cases hi
    exact ⟨q, e, by rw [← h.1, List.getElem?_append_right (Nat.le_refl _), Nat.sub_self]; rfl, hc⟩
theorem zad_len {tys : List (ClassId × FieldType)} {H : mzH} {ws : va_W} (h : zrH tys H ws) (q : Nat) (e : va_E) : (zad (ws ++ [(q, e)]))[H.length]? = some q := by
  rw [zad_push, ← h.1, List.getElem?_append_right (by simp [zad])]
  simp [zad]
/-- lists and the kit's functions -/
theorem z_upd {l : List Int32} {i : Nat} (x : Int32) (h : i < l.length) : (fun k => (l.set i x).getD k 0) = upd (fun k => l.getD k 0) i x := by
  funext k
  simp only [upd, List.getD_eq_getElem?_getD, List.getElem?_set]
  by_cases hk : k = i
  · subst hk
    simp [h]
  · simp [hk, Ne.symm hk]
theorem z_cpy {f g : List Int32} {sp dp n : Nat} (h1 : sp + n ≤ f.length) (h2 : dp + n ≤ g.length) : (fun k => (mzCpy f g sp dp n).getD k 0) = va_cpy (fun k => f.getD k 0) (fun k => g.getD k 0) sp dp n := by
  funext k
  simp only [va_cpy, mzCpy, List.getD_eq_getElem?_getD]
  have e1 : (g.take dp).length = dp := by rw [List.length_take]; omega
  have e2 : ((f.drop sp).take n).length = n := by rw [List.length_take, List.length_drop]; omega
  by_cases c1 : k < dp
  · rw [List.getElem?_append_left (by rw [e1]; exact c1), List.getElem?_take_of_lt c1, if_neg (by omega)]
  · rw [List.getElem?_append_right (by omega), e1]
    by_cases c2 : k < dp + n
    · rw [List.getElem?_append_left (by omega), List.getElem?_take_of_lt (by omega), List.getElem?_drop, if_pos ⟨by omega, c2⟩]
    · rw [List.getElem?_append_right (by omega), e2, List.getElem?_drop, if_neg (by omega)]
      congr 2
      omega
theorem z_cpyl {f g : List Int32} {sp dp n : Nat} (h1 : sp + n ≤ f.length) (h2 : dp + n ≤ g.length) : (mzCpy f g sp dp n).length = g.length := by
  simp only [mzCpy, List.length_append, List.length_take, List.length_drop]
  omega
theorem zrM_st1 {ad : List Nat} {i : Nat} {v w : Value} {l l' : mzL} (h : zrM ad l l') (hv : zrV ad v w) : zrM ad (mzSt1 i v l) ((i, w) :: l'.filter (fun q => !(q.1 == i) && !(q.1 + 1 == i && q.2.category == 2))) := by
  unfold mzSt1
  rw [mzFl1_eq]
  exact ⟨w, _, rfl, hv, zrM_filter _ (fun a v w h => by simp only [h]) h⟩
theorem zrM_st2 {ad : List Nat} {i : Nat} {v w : Value} {l l' : mzL} (h : zrM ad l l') (hv : zrV ad v w) : zrM ad (mzSt2 i v l) ((i, w) :: l'.filter (fun q => !(q.1 == i) && (!(q.1 == i + 1) && !(q.1 + 1 == i && q.2.category == 2)))) := by
  unfold mzSt2
  rw [mzFl2_eq]
  exact ⟨w, _, rfl, hv, zrM_filter _ (fun a v w h => by simp only [h]) h⟩
