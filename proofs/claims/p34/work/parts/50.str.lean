/-! RULES for String constants -/
def sCh (x i : Nat) : Int32 := (sBy.getD x []).getD i 0
theorem s_l91 : ∀ x, x < 2 → ((Int32.ofNat (sLn.getD x 0)).toInt = 91 ∧ (sBy.getD x []).length = 91) := by decide +kernel
theorem s_c91 : ∀ x, x < 2 → ∀ i, i < 91 → (32 ≤ (sCh x i).toInt ∧ (sCh x i).toInt ≤ 122 ∧ ((sCh x i).toInt = 32 ∨ i ≤ 89)) := by decide +kernel
theorem s_ix {x : Nat} {i : Int32} (hx : x < 2) (hi : 0 ≤ i.toInt ∧ i.toInt ≤ 90) : mzIx (sBy.getD x []) i = some (sCh x i.toInt.toNat) := by
  obtain ⟨h1, h2⟩ := mzN_ge hi.1
  have e : i.toNatClampNeg = i.toInt.toNat := rfl
  have hl := (s_l91 x hx).2
  unfold mzIx
  rw [h1, cond_true, mzNq_eq, h2, e]
  unfold sCh
  generalize sBy.getD x [] = q at hl ⊢
  have hlt : i.toInt.toNat < q.length := by omega
  rw [List.getD_eq_getElem?_getD, List.getElem?_eq_getElem hlt]
  rfl
section
variable {nL : Nat} {bl : mzB} {r : List mzO} {l : List (Nat × Value)} {st : List Value} {H : mzH} {c s : Nat} {Q : Option Value → mzH → Prop} {pc x y : Nat}
theorem g_strl {k t1 t2 : Nat} (hx : x < 2) (hw : Nat.ble (mzWd st) 8 = true) (K : ∀ v : Int32, v.toInt = 91 → gG nL bl r l (.int v :: st) H c s Q) : gG nL bl ((pc, .ldc k, x, y, [t1, t2]) :: r) l st H c s Q := fun lv hl => g_stp (fun g => by show (bif Nat.ble (mzWd st) 8 then _ else _) = _; rw [hw]; rfl) (K _ (s_l91 x hx).1 lv hl)
theorem g_str1 {k a t1 t2 : Nat} {i : Int32} (hx : x < 2) (hg : gk l ((zf4 a : Fin 4) : Nat) = some (.int i)) (hw : Nat.ble (mzWd st) 8 = true) (hi : 0 ≤ i.toInt ∧ i.toInt ≤ 90) (K : ∀ v : Int32, v = sCh x i.toInt.toNat → 32 ≤ v.toInt → v.toInt ≤ 122 → (v.toInt = 32 ∨ i.toInt ≤ 89) → gG nL bl r l (.int v :: st) H c s Q) : gG nL bl ((pc, .ldc k, x, y, [t1, a, t2]) :: r) l st H c s Q := by
  obtain ⟨h1, h2, h3⟩ := s_c91 x hx i.toInt.toNat (by omega)
  exact fun lv hl => g_stp (fun g => by show mzSc1 x a (zEx g nL bl r) lv st H c s = _; unfold mzSc1; rw [gLk_get hl hg]; simp only [s_ix hx hi, hw, cond_true]) (K _ rfl h1 h2 (by omega) lv hl)
theorem g_str2 {k a b t1 t2 : Nat} {i j : Int32} (hx : x < 2) (hg : gk l ((zf4 a : Fin 4) : Nat) = some (.int i)) (hg2 : gk l ((zf4 b : Fin 4) : Nat) = some (.int j)) (hw : Nat.ble (mzWd st) 8 = true) (hi : 0 ≤ i.toInt + j.toInt ∧ i.toInt + j.toInt ≤ 90) (K : ∀ v : Int32, v = sCh x (i.toInt + j.toInt).toNat → 32 ≤ v.toInt → v.toInt ≤ 122 → (v.toInt = 32 ∨ i.toInt + j.toInt ≤ 89) → gG nL bl r l (.int v :: st) H c s Q) : gG nL bl ((pc, .ldc k, x, y, [t1, a, t2, b]) :: r) l st H c s Q := by
  have e : (i + j).toInt = i.toInt + j.toInt := gz_add (by omega)
  obtain ⟨h1, h2, h3⟩ := s_c91 x hx (i.toInt + j.toInt).toNat (by omega)
  exact fun lv hl => g_stp (fun g => by show mzSc2 x a b (zEx g nL bl r) lv st H c s = _; unfold mzSc2; rw [gLk_get hl hg, gLk_get hl hg2]; simp only [s_ix (i := i + j) hx (by omega), hw, cond_true, e]) (K _ rfl h1 h2 (by omega) lv hl)
end
