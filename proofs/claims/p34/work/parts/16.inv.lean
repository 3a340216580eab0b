/-! WHAT AN INSTRUCTION OF THE MINI MACHINE HAS FOUND, IF ITS RUN ENDS -/
section
variable {k kt kf : mzK} {lv : mzL} {st : List Value} {H : mzH} {c s : Nat} {q : Option Value × mzH}
theorem mzIld_i {i : Nat} (h : mzIld i k lv st H c s = some q) : ∃ v, mzGet i lv = some (.int v) ∧ k lv (.int v :: st) H c s = some q := by
  unfold mzIld at h; split at h
  · rename_i v e; exact ⟨v, e, h⟩
  · cases h
theorem mzLld_i {i : Nat} (h : mzLld i k lv st H c s = some q) : ∃ v, mzGet i lv = some (.long v) ∧ k lv (.long v :: st) H c s = some q := by
  unfold mzLld at h; split at h
  · rename_i v e; exact ⟨v, e, h⟩
  · cases h
theorem mzAld_i {i : Nat} (h : mzAld i k lv st H c s = some q) : ∃ v, mzGet i lv = some (.ref v) ∧ k lv (.ref v :: st) H c s = some q := by
  unfold mzAld at h; split at h
  · rename_i v e; exact ⟨v, e, h⟩
  · cases h
theorem z_bif {a : Bool} {α : Type} {x : Option α} {y : α} (h : (bif a then x else none) = some y) : a = true ∧ x = some y := by
  cases a with
  | true => exact ⟨rfl, h⟩
  | false => cases h
theorem z_bif2 {a : Bool} {α : Type} {x : Option α} {y : α} (h : (bif a then none else x) = some y) : a = false ∧ x = some y := by
  cases a with
  | true => cases h
  | false => exact ⟨rfl, h⟩
theorem mzIst_i {n i : Nat} (h : mzIst n i k lv st H c s = some q) : ∃ v r, st = .int v :: r ∧ i < n ∧ k (mzSt1 i (.int v) lv) r H c s = some q := by
  unfold mzIst at h; split at h
  · rename_i v r; obtain ⟨h1, h2⟩ := z_bif h; exact ⟨v, r, rfl, Nat.blt_eq.mp h1, h2⟩
  · cases h
theorem mzAst_i {n i : Nat} (h : mzAst n i k lv st H c s = some q) : ∃ v r, st = .ref v :: r ∧ i < n ∧ k (mzSt1 i (.ref v) lv) r H c s = some q := by
  unfold mzAst at h; split at h
  · rename_i v r; obtain ⟨h1, h2⟩ := z_bif h; exact ⟨v, r, rfl, Nat.blt_eq.mp h1, h2⟩
  · cases h
theorem mzLst_i {n i : Nat} (h : mzLst n i k lv st H c s = some q) : ∃ v r, st = .long v :: r ∧ i + 1 < n ∧ k (mzSt2 i (.long v) lv) r H c s = some q := by
  unfold mzLst at h; split at h
  · rename_i v r; obtain ⟨h1, h2⟩ := z_bif h; exact ⟨v, r, rfl, Nat.blt_eq.mp h1, h2⟩
  · cases h
theorem mzInc_i {n i : Nat} {d : Int} (h : mzInc n i d k lv st H c s = some q) : ∃ v, mzGet i lv = some (.int v) ∧ i < n ∧ k (mzSt1 i (.int (v + Int32.ofInt d)) lv) st H c s = some q := by
  unfold mzInc at h; split at h
  · rename_i v e; obtain ⟨h1, h2⟩ := z_bif h; exact ⟨v, e, Nat.blt_eq.mp h1, h2⟩
  · cases h
theorem mzI2_i {g : Int32 → Int32 → Int32} (h : mzI2 g k lv st H c s = some q) : ∃ a b r, st = .int b :: .int a :: r ∧ k lv (.int (g a b) :: r) H c s = some q := by
  unfold mzI2 at h; split at h
  · rename_i b a r; exact ⟨a, b, r, rfl, h⟩
  · cases h
theorem mzRem_i (h : mzRem k lv st H c s = some q) : ∃ a b r, st = .int b :: .int a :: r ∧ ¬ b = 0 ∧ k lv (.int (a - a / b * b) :: r) H c s = some q := by
  unfold mzRem at h; split at h
  · rename_i b a r; obtain ⟨h1, h2⟩ := z_bif2 h; exact ⟨a, b, r, rfl, of_decide_eq_false h1, h2⟩
  · cases h
theorem mzL2_i {g : Int64 → Int64 → Int64} (h : mzL2 g k lv st H c s = some q) : ∃ a b r, st = .long b :: .long a :: r ∧ k lv (.long (g a b) :: r) H c s = some q := by
  unfold mzL2 at h; split at h
  · rename_i b a r; exact ⟨a, b, r, rfl, h⟩
  · cases h
theorem mzLsh_i {g : Int64 → Int32 → Int64} (h : mzLsh g k lv st H c s = some q) : ∃ a b r, st = .int b :: .long a :: r ∧ k lv (.long (g a b) :: r) H c s = some q := by
  unfold mzLsh at h; split at h
  · rename_i b a r; exact ⟨a, b, r, rfl, h⟩
  · cases h
theorem mzLcmp_i (h : mzLcmp k lv st H c s = some q) : ∃ a b r, st = .long b :: .long a :: r ∧ k lv (.int (lg_cmp a b) :: r) H c s = some q := by
  unfold mzLcmp at h; split at h
  · rename_i b a r; exact ⟨a, b, r, rfl, h⟩
  · cases h
theorem mzI1_i {g : Int32 → Value} (h : mzI1 g k lv st H c s = some q) : ∃ a r, st = .int a :: r ∧ k lv (g a :: r) H c s = some q := by
  unfold mzI1 at h; split at h
  · rename_i a r; exact ⟨a, r, rfl, h⟩
  · cases h
theorem mzL1_i {g : Int64 → Value} (h : mzL1 g k lv st H c s = some q) : ∃ a r, st = .long a :: r ∧ k lv (g a :: r) H c s = some q := by
  unfold mzL1 at h; split at h
  · rename_i a r; exact ⟨a, r, rfl, h⟩
  · cases h
theorem mzDup_i (h : mzDup k lv st H c s = some q) : ∃ a r, st = a :: r ∧ a.category = 1 ∧ k lv (a :: a :: r) H c s = some q := by
  unfold mzDup at h; split at h
  · rename_i a r; obtain ⟨h1, h2⟩ := z_bif h; exact ⟨a, r, rfl, Nat.eq_of_beq_eq_true h1, h2⟩
  · cases h
theorem mzPop_i (h : mzPop k lv st H c s = some q) : ∃ a r, st = a :: r ∧ a.category = 1 ∧ k lv r H c s = some q := by
  unfold mzPop at h; split at h
  · rename_i a r; obtain ⟨h1, h2⟩ := z_bif h; exact ⟨a, r, rfl, Nat.eq_of_beq_eq_true h1, h2⟩
  · cases h
theorem mzDup2_i (h : mzDup2 k lv st H c s = some q) : ∃ a b r, st = a :: b :: r ∧ a.category = 1 ∧ b.category = 1 ∧ k lv (a :: b :: a :: b :: r) H c s = some q := by
  unfold mzDup2 at h; split at h
  · rename_i a b r; obtain ⟨h1, h2⟩ := z_bif h; simp only [Bool.and_eq_true] at h1; exact ⟨a, b, r, rfl, Nat.eq_of_beq_eq_true h1.1, Nat.eq_of_beq_eq_true h1.2, h2⟩
  · cases h
theorem z_cond {a : Bool} {x y : mzR} (h : (bif a then x else y) = some q) : (a = true ∧ x = some q) ∨ (a = false ∧ y = some q) := by
  cases a with
  | true => exact Or.inl ⟨rfl, h⟩
  | false => exact Or.inr ⟨rfl, h⟩
theorem mzIf_i {o : ClassFile.Cond} (h : mzIf o kt kf lv st H c s = some q) : ∃ a r, st = .int a :: r ∧ ((mzCnd o a 0 = true → kt lv r H c s = some q) ∧ (mzCnd o a 0 = false → kf lv r H c s = some q)) := by
  unfold mzIf at h; split at h
  · rename_i a r; refine ⟨a, r, rfl, ?_⟩
    rcases z_cond h with ⟨h1, h2⟩ | ⟨h1, h2⟩ <;> rw [h1]
    · exact ⟨fun _ => h2, (fun h => by cases h)⟩
    · exact ⟨(fun h => by cases h), fun _ => h2⟩
  · cases h
theorem mzIf2_i {o : ClassFile.Cond} (h : mzIf2 o kt kf lv st H c s = some q) : ∃ a b r, st = .int b :: .int a :: r ∧ ((mzCnd o a b = true → kt lv r H c s = some q) ∧ (mzCnd o a b = false → kf lv r H c s = some q)) := by
  unfold mzIf2 at h; split at h
  · rename_i b a r; refine ⟨a, b, r, rfl, ?_⟩
    rcases z_cond h with ⟨h1, h2⟩ | ⟨h1, h2⟩ <;> rw [h1]
    · exact ⟨fun _ => h2, (fun h => by cases h)⟩
    · exact ⟨(fun h => by cases h), fun _ => h2⟩
  · cases h
theorem mzSw_i {lo hi : Int} {ts : List Nat} {kd : mzK} {kq : Nat → mzK} (h : mzSw lo hi ts kd kq lv st H c s = some q) : ∃ a r, st = .int a :: r ∧ (((a.toInt < lo ∨ hi < a.toInt) ∧ kd lv r H c s = some q) ∨ (¬ a.toInt < lo ∧ ¬ hi < a.toInt ∧ ∃ b, ts[(a.toInt - lo).toNat]? = some b ∧ kq b lv r H c s = some q)) := by
  unfold mzSw at h; split at h
  · rename_i a r; refine ⟨a, r, rfl, ?_⟩
    rcases z_cond h with ⟨h1, h2⟩ | ⟨h1, h2⟩
    · simp only [Bool.or_eq_true, decide_eq_true_eq] at h1
      exact Or.inl ⟨h1, h2⟩
    · simp only [Bool.or_eq_false_iff, decide_eq_false_iff_not] at h1
      split at h2
      · rename_i b e; rw [mzNq_eq] at e; exact Or.inr ⟨h1.1, h1.2, b, e, h2⟩
      · cases h2
  · cases h
theorem mzGf_i {ci f : Nat} (h : mzGf ci f k lv st H c s = some q) : ∃ a r fs v, st = .ref a :: r ∧ H[a]? = some (.inr (ci, fs)) ∧ fs[f]? = some v ∧ k lv (v :: r) H c s = some q := by
  unfold mzGf at h; split at h
  · rename_i a r; split at h
    · rename_i d fs e; obtain ⟨h1, h2⟩ := z_bif h
      split at h2
      · rename_i v e2
        have hd := Nat.eq_of_beq_eq_true h1
        subst hd
        rw [mzNq_eq] at e e2
        exact ⟨a, r, fs, v, rfl, e, e2, h2⟩
      · cases h2
    · cases h
  · cases h
theorem mzPf_i {ci f t : Nat} (h : mzPf ci f t k lv st H c s = some q) : ∃ a r fs v, st = v :: .ref a :: r ∧ H[a]? = some (.inr (ci, fs)) ∧ f < fs.length ∧ mzFit t v = true ∧ k lv r (H.set a (.inr (ci, fs.set f v))) c s = some q := by
  unfold mzPf at h; split at h
  · rename_i v a r; split at h
    · rename_i d fs e; obtain ⟨h1, h2⟩ := z_bif h
      simp only [Bool.and_eq_true] at h1
      have hd := Nat.eq_of_beq_eq_true h1.1
      subst hd
      rw [mzNq_eq] at e
      rw [mzSetK_eq, mzSetK_eq] at h2
      exact ⟨a, r, fs, v, rfl, e, Nat.blt_eq.mp h1.2.1, h1.2.2, h2⟩
    · cases h
  · cases h
theorem mzIx_i {l : List Int32} {i v : Int32} (h : mzIx l i = some v) : vp_in i l.length ∧ v = l.getD i.toNatClampNeg 0 ∧ mzN i = i.toNatClampNeg := by
  unfold mzIx at h
  obtain ⟨h1, h2⟩ := z_bif h
  obtain ⟨h3, h4⟩ := mzN_eq h1
  rw [mzNq_eq, h4] at h2
  have hl := (List.getElem?_eq_some_iff.mp h2).1
  refine ⟨fun hh => ?_, ?_, h4⟩
  · rcases hh with hh | hh
    · exact h3 hh
    · omega
  · rw [List.getD_eq_getElem?_getD, h2]; rfl
theorem mzAl_i {b : Bool} (h : mzAl b k lv st H c s = some q) : ∃ i a r d l, st = .int i :: .ref a :: r ∧ H[a]? = some (.inl (d, l)) ∧ Bool.xor b (Nat.beq d 0) = true ∧ vp_in i l.length ∧ k lv (.int (l.getD i.toNatClampNeg 0) :: r) H c s = some q := by
  unfold mzAl at h; split at h
  · rename_i i a r; split at h
    · rename_i d l e; obtain ⟨h1, h2⟩ := z_bif h
      split at h2
      · rename_i v e2
        obtain ⟨h3, h4, -⟩ := mzIx_i e2
        subst h4
        rw [mzNq_eq] at e
        exact ⟨i, a, r, d, l, rfl, e, h1, h3, h2⟩
      · cases h2
    · cases h
  · cases h
theorem mzAs_i {b : Bool} (h : mzAs b k lv st H c s = some q) : ∃ x i a r d l, st = .int x :: .int i :: .ref a :: r ∧ H[a]? = some (.inl (d, l)) ∧ Bool.xor b (Nat.beq d 0) = true ∧ vp_in i l.length ∧ k lv r (H.set a (.inl (d, l.set i.toNatClampNeg (vp_nar (mzTy d) x)))) c s = some q := by
  unfold mzAs at h; split at h
  · rename_i x i a r; split at h
    · rename_i d l e; obtain ⟨h1, h2⟩ := z_bif h
      split at h2
      · rename_i v e2
        obtain ⟨h3, -, h4⟩ := mzIx_i e2
        rw [mzNq_eq] at e
        rw [mzSetK_eq, mzSetK_eq, h4] at h2
        exact ⟨x, i, a, r, d, l, rfl, e, h1, h3, h2⟩
      · cases h2
    · cases h
  · cases h
theorem mzLen_i (h : mzLen k lv st H c s = some q) : ∃ a r d l, st = .ref a :: r ∧ H[a]? = some (.inl (d, l)) ∧ k lv (.int (Int32.ofNat l.length) :: r) H c s = some q := by
  unfold mzLen at h; split at h
  · rename_i a r; split at h
    · rename_i d l e; rw [mzNq_eq] at e; exact ⟨a, r, d, l, rfl, e, h⟩
    · cases h
  · cases h
theorem mzNewa_i {d : Nat} (h : mzNewa d k lv st H c s = some q) : ∃ n r, st = .int n :: r ∧ ¬ n < 0 ∧ 1 ≤ c ∧ n.toNatClampNeg ≤ s ∧ n.toNatClampNeg ≤ 65536 ∧ k lv (.ref H.length :: r) (H ++ [.inl (d, List.replicate n.toNatClampNeg 0)]) (c - 1) (s - n.toNatClampNeg) = some q := by
  unfold mzNewa at h; split at h
  · rename_i n r; obtain ⟨h1, h2⟩ := z_bif2 h
    obtain ⟨h3, h4⟩ := z_bif h2
    simp only [Bool.and_eq_true] at h3
    exact ⟨n, r, rfl, of_decide_eq_false h1, Nat.le_of_ble_eq_true h3.1, Nat.le_of_ble_eq_true h3.2.1, Nat.le_of_ble_eq_true h3.2.2, h4⟩
  · cases h
theorem mzNew_i {ci : Nat} {fs : List Value} (h : mzNew ci fs k lv st H c s = some q) : 1 ≤ c ∧ fs.length ≤ s ∧ k lv (.ref H.length :: st) (H ++ [.inr (ci, fs)]) (c - 1) (s - fs.length) = some q := by
  unfold mzNew at h
  obtain ⟨h3, h4⟩ := z_bif h
  simp only [Bool.and_eq_true] at h3
  exact ⟨Nat.le_of_ble_eq_true h3.1, Nat.le_of_ble_eq_true h3.2, h4⟩
theorem mzInv_i {g : List Value → mzH → Bool} {nl : Nat} {ca : mzK} {na mc ms : Nat} (h : mzInv g nl ca na mc ms k lv st H c s = some q) : g st H = true ∧ na ≤ st.length ∧ mzWd (st.drop na) ≤ 8 ∧ mc ≤ c ∧ ms ≤ s ∧ mzWd (st.take na) ≤ nl ∧ ∃ o H1, ca (lv_args 0 (st.take na).reverse) [] H mc ms = some (o, H1) ∧ k lv (o.toList ++ st.drop na) H1 (c - mc) (s - ms) = some q := by
  unfold mzInv at h
  obtain ⟨h1, h2⟩ := z_bif h
  simp only [Bool.and_eq_true] at h1
  obtain ⟨a1, a2, a3, a4, a5, a6⟩ := h1
  refine ⟨a1, Nat.le_of_ble_eq_true a2, Nat.le_of_ble_eq_true a3, Nat.le_of_ble_eq_true a4, Nat.le_of_ble_eq_true a5, Nat.le_of_ble_eq_true a6, ?_⟩
  split at h2
  · rename_i o H1 e; exact ⟨o, H1, e, h2⟩
  · cases h2
theorem mzRcv_i {na ci : Nat} (h : mzRcv na ci st H = true) : ∃ a fs, st[na - 1]? = some (.ref a) ∧ H[a]? = some (.inr (ci, fs)) := by
  unfold mzRcv at h; split at h
  · rename_i a e; split at h
    · rename_i d fs e2
      have hd := Nat.eq_of_beq_eq_true h
      subst hd
      rw [mzNq_eq] at e e2
      exact ⟨a, fs, e, e2⟩
    · cases h
  · cases h
theorem mzAcp_i (h : mzAcp k lv st H c s = some q) : ∃ n dp a sp a0 r f g, st = .int n :: .int dp :: .ref a :: .int sp :: .ref a0 :: r ∧ H[a0]? = some (.inl (0, f)) ∧ H[a]? = some (.inl (0, g)) ∧ ¬ sp < 0 ∧ ¬ dp < 0 ∧ ¬ n < 0 ∧ sp.toNatClampNeg + n.toNatClampNeg ≤ f.length ∧ dp.toNatClampNeg + n.toNatClampNeg ≤ g.length ∧ mzWd r ≤ 8 ∧ k lv r (H.set a (.inl (0, mzCpy f g sp.toNatClampNeg dp.toNatClampNeg n.toNatClampNeg))) c s = some q := by
  unfold mzAcp at h; split at h
  · rename_i n dp a sp a0 r; split at h
    · rename_i f g e1 e2
      obtain ⟨h1, h2⟩ := z_bif2 h
      obtain ⟨h3, h4⟩ := z_bif h2
      simp only [Bool.or_eq_false_iff, decide_eq_false_iff_not] at h1
      simp only [Bool.and_eq_true] at h3
      rw [mzNq_eq] at e1 e2
      rw [mzSetK_eq] at h4
      exact ⟨n, dp, a, sp, a0, r, f, g, rfl, e1, e2, h1.1, h1.2.1, h1.2.2, Nat.le_of_ble_eq_true h3.1, Nat.le_of_ble_eq_true h3.2.1, Nat.le_of_ble_eq_true h3.2.2, h4⟩
    · cases h
  · cases h
theorem mzMm_i {g : Int32 → Int32 → Int32} (h : mzMm g k lv st H c s = some q) : ∃ a b r, st = .int b :: .int a :: r ∧ mzWd r ≤ 8 ∧ k lv (.int (g a b) :: r) H c s = some q := by
  unfold mzMm at h; split at h
  · rename_i b a r; obtain ⟨h1, h2⟩ := z_bif h; exact ⟨a, b, r, rfl, Nat.le_of_ble_eq_true h1, h2⟩
  · cases h
theorem mzObi_i (h : mzObi k lv st H c s = some q) : ∃ a r, st = .ref a :: r ∧ mzWd r ≤ 8 ∧ k lv r H c s = some q := by
  unfold mzObi at h; split at h
  · rename_i a r; obtain ⟨h1, h2⟩ := z_bif h; exact ⟨a, r, rfl, Nat.le_of_ble_eq_true h1, h2⟩
  · cases h
theorem mzIret_i {b : Nat} (h : mzIret b lv st H c s = some q) : ∃ v, st = [.int v] ∧ q = (some (.int v), H) ∧ (b = 0 ∨ v = 0 ∨ v = 1) := by
  unfold mzIret at h; split at h
  · rename_i v; split at h
    · exact ⟨v, rfl, (Option.some.inj h).symm, Or.inl rfl⟩
    · obtain ⟨h1, h2⟩ := z_bif h
      simp only [Bool.or_eq_true, decide_eq_true_eq] at h1
      exact ⟨v, rfl, (Option.some.inj h2).symm, Or.inr h1⟩
  · cases h
theorem mzLret_i (h : mzLret lv st H c s = some q) : ∃ v, st = [.long v] ∧ q = (some (.long v), H) := by
  unfold mzLret at h; split at h
  · rename_i v; exact ⟨v, rfl, (Option.some.inj h).symm⟩
  · cases h
theorem mzAret_i (h : mzAret lv st H c s = some q) : ∃ v, st = [.ref v] ∧ q = (some (.ref v), H) := by
  unfold mzAret at h; split at h
  · rename_i v; exact ⟨v, rfl, (Option.some.inj h).symm⟩
  · cases h
theorem mzVret_i (h : mzVret lv st H c s = some q) : st = [] ∧ q = (none, H) := by
  unfold mzVret at h; split at h
  · exact ⟨rfl, (Option.some.inj h).symm⟩
  · cases h
theorem mzSln_i {x : Nat} (h : mzSln x k lv st H c s = some q) : mzWd st ≤ 8 ∧ k lv (.int (Int32.ofNat (sLn.getD x 0)) :: st) H c s = some q := by
  unfold mzSln at h
  obtain ⟨h1, h2⟩ := z_bif h
  exact ⟨Nat.le_of_ble_eq_true h1, h2⟩
theorem mzIx_j {l : List Int32} {i v : Int32} (h : mzIx l i = some v) : ¬ i < 0 ∧ l[i.toNatClampNeg]? = some v := by
  unfold mzIx at h
  cases e : Nat.blt (mzN i) 2147483648 with
  | false => rw [e] at h; cases h
  | true =>
    rw [e] at h
    obtain ⟨h1, h2⟩ := mzN_eq e
    rw [cond_true, mzNq_eq, h2] at h
    exact ⟨h1, h⟩
theorem mzSc1_i {x a : Nat} (h : mzSc1 x a k lv st H c s = some q) : ∃ i v, mzGet ((zf4 a : Fin 4) : Nat) lv = some (.int i) ∧ ¬ i < 0 ∧ (sBy.getD x [])[i.toNatClampNeg]? = some v ∧ mzWd st ≤ 8 ∧ k lv (.int v :: st) H c s = some q := by
  unfold mzSc1 at h
  split at h
  · rename_i i hi
    split at h
    · rename_i v hv
      obtain ⟨h1, h2⟩ := z_bif h
      exact ⟨i, v, hi, (mzIx_j hv).1, (mzIx_j hv).2, Nat.le_of_ble_eq_true h1, h2⟩
    · cases h
  · cases h
theorem mzSc2_i {x a b : Nat} (h : mzSc2 x a b k lv st H c s = some q) : ∃ i j v, mzGet ((zf4 a : Fin 4) : Nat) lv = some (.int i) ∧ mzGet ((zf4 b : Fin 4) : Nat) lv = some (.int j) ∧ ¬ i + j < 0 ∧ (sBy.getD x [])[(i + j).toNatClampNeg]? = some v ∧ mzWd st ≤ 8 ∧ k lv (.int v :: st) H c s = some q := by
  unfold mzSc2 at h
  split at h
  · rename_i i hi
    split at h
    · rename_i j hj
      split at h
      · rename_i v hv
        obtain ⟨h1, h2⟩ := z_bif h
        exact ⟨i, j, v, hi, hj, (mzIx_j hv).1, (mzIx_j hv).2, Nat.le_of_ble_eq_true h1, h2⟩
      · cases h
    · cases h
  · cases h
end
