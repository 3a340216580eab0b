/-! RULES: what a run of the mini machine comes to, instruction by instruction, over a heap of a known shape (by program, wip/go.py) -/
def gGo (nL : Nat) (bl : mzB) (ops : List mzO) (lv : mzL) (st : List Value) (H : mzH) (c s : Nat) (Q : Option Value → mzH → Prop) : Prop :=
  ∃ (q : Option Value) (H' : mzH), Q q H' ∧ ∃ f0, ∀ f, f0 ≤ f → zEx f nL bl ops lv st H c s = some (q, H')
def gLk (lv : mzL) : List (Nat × Value) → Prop
  | [] => True
  | q :: r => mzGet q.1 lv = some q.2 ∧ gLk lv r
/-- a run from every list of locals that says this much -/
def gG (nL : Nat) (bl : mzB) (ops : List mzO) (l : List (Nat × Value)) (st : List Value) (H : mzH) (c s : Nat) (Q : Option Value → mzH → Prop) : Prop := ∀ lv, gLk lv l → gGo nL bl ops lv st H c s Q
def gCall (j : Nat) (as : List Value) (H : mzH) (Q : Option Value → mzH → Prop) : Prop := gGo (zN j) (zB j) (mzBlk (zB j) 0) (lv_args 0 as) [] H 0 0 Q
def gk : List (Nat × Value) → Nat → Option Value
  | [], _ => none
  | (k, v) :: r, i => bif Nat.beq k i then some v else gk r i
theorem gLk_get : ∀ {l : List (Nat × Value)} {lv : mzL} {i : Nat} {v : Value}, gLk lv l → gk l i = some v → mzGet i lv = some v
  | [], _, _, _, _, h => by cases h
  | (k, u) :: r, lv, i, v, hl, h => by
    unfold gk at h
    cases e : Nat.beq k i with
    | true =>
      rw [e] at h
      simp only [cond_true, Option.some.injEq] at h
      have := Nat.eq_of_beq_eq_true e
      subst this; subst h
      exact hl.1
    | false =>
      rw [e] at h
      exact gLk_get hl.2 h
def gf1 (i : Nat) : List (Nat × Value) → List (Nat × Value)
  | [] => []
  | (k, v) :: r => bif Nat.beq k i || (Nat.beq (k + 1) i && Nat.beq v.category 2) then gf1 i r else (k, v) :: gf1 i r
def gf2 (i : Nat) : List (Nat × Value) → List (Nat × Value)
  | [] => []
  | (k, v) :: r => bif Nat.beq k i || (Nat.beq k (i + 1) || (Nat.beq (k + 1) i && Nat.beq v.category 2)) then gf2 i r else (k, v) :: gf2 i r
def gin (i : Nat) (v : Value) : List (Nat × Value) → List (Nat × Value)
  | [] => [(i, v)]
  | (k, u) :: r => bif Nat.blt i k then (i, v) :: (k, u) :: r else (k, u) :: gin i v r
theorem gin_ok {lv : mzL} {i : Nat} {v : Value} (h : mzGet i lv = some v) : ∀ {l : List (Nat × Value)}, gLk lv l → gLk lv (gin i v l)
  | [], _ => ⟨h, trivial⟩
  | (k, u) :: r, hl => by
    unfold gin
    cases Nat.blt i k with
    | true => exact ⟨h, hl⟩
    | false => exact ⟨hl.1, gin_ok h hl.2⟩
theorem gfl1 {k i : Nat} {u : Value} (h : (Nat.beq k i || (Nat.beq (k + 1) i && Nat.beq u.category 2)) = false) : ∀ {lv : mzL}, mzGet k lv = some u → mzGet k (mzFl1 i lv) = some u
  | [], h2 => by cases h2
  | (k2, u2) :: r, h2 => by
    rw [mzGet_cons] at h2
    rw [mzFl1_cons]
    cases e : Nat.beq k2 k with
    | true =>
      rw [e] at h2
      simp only [cond_true, Option.some.injEq] at h2
      have e2 := Nat.eq_of_beq_eq_true e
      subst e2; subst h2
      rw [h, cond_false, mzGet_cons, e, cond_true]
    | false =>
      rw [e] at h2
      have ih := gfl1 h (lv := r) h2
      cases (Nat.beq k2 i || (Nat.beq (k2 + 1) i && Nat.beq u2.category 2)) with
      | true => rw [cond_true]; exact ih
      | false => rw [cond_false, mzGet_cons, e, cond_false]; exact ih
theorem gfl2 {k i : Nat} {u : Value} (h : (Nat.beq k i || (Nat.beq k (i + 1) || (Nat.beq (k + 1) i && Nat.beq u.category 2))) = false) : ∀ {lv : mzL}, mzGet k lv = some u → mzGet k (mzFl2 i lv) = some u
  | [], h2 => by cases h2
  | (k2, u2) :: r, h2 => by
    rw [mzGet_cons] at h2
    unfold mzFl2
    cases e : Nat.beq k2 k with
    | true =>
      rw [e] at h2
      simp only [cond_true, Option.some.injEq] at h2
      have e2 := Nat.eq_of_beq_eq_true e
      subst e2; subst h2
      rw [h, cond_false, mzGet_cons, e, cond_true]
    | false =>
      rw [e] at h2
      have ih := gfl2 h (lv := r) h2
      cases (Nat.beq k2 i || (Nat.beq k2 (i + 1) || (Nat.beq (k2 + 1) i && Nat.beq u2.category 2))) with
      | true => rw [cond_true]; exact ih
      | false => rw [cond_false, mzGet_cons, e, cond_false]; exact ih
theorem gst_ne {k i : Nat} {v u : Value} {l : mzL} (h : Nat.beq k i = false) (h2 : mzGet k l = some u) : mzGet k ((i, v) :: l) = some u := by
  have e : Nat.beq i k = false := by
    cases e : Nat.beq i k with
    | false => rfl
    | true => rw [Nat.eq_of_beq_eq_true e, Nat.beq_refl] at h; cases h
  rw [mzGet_cons, e, cond_false, h2]
theorem gf1_ok {lv : mzL} {i : Nat} {v : Value} : ∀ {l : List (Nat × Value)}, gLk lv l → gLk (mzSt1 i v lv) (gf1 i l)
  | [], _ => trivial
  | (k, u) :: r, hl => by
    unfold gf1
    cases e : (Nat.beq k i || (Nat.beq (k + 1) i && Nat.beq u.category 2)) with
    | true => exact gf1_ok hl.2
    | false => exact ⟨gst_ne (Bool.or_eq_false_iff.mp e).1 (gfl1 e hl.1), gf1_ok hl.2⟩
theorem gf2_ok {lv : mzL} {i : Nat} {v : Value} : ∀ {l : List (Nat × Value)}, gLk lv l → gLk (mzSt2 i v lv) (gf2 i l)
  | [], _ => trivial
  | (k, u) :: r, hl => by
    unfold gf2
    cases e : (Nat.beq k i || (Nat.beq k (i + 1) || (Nat.beq (k + 1) i && Nat.beq u.category 2))) with
    | true => exact gf2_ok hl.2
    | false => exact ⟨gst_ne (Bool.or_eq_false_iff.mp e).1 (gfl2 e hl.1), gf2_ok hl.2⟩
def gu1 (l : List (Nat × Value)) (i : Nat) (v : Value) : List (Nat × Value) := gin i v (gf1 i l)
def gu2 (l : List (Nat × Value)) (i : Nat) (v : Value) : List (Nat × Value) := gin i v (gf2 i l)
theorem gu1_ok {lv : mzL} {i : Nat} {v : Value} {l l' : List (Nat × Value)} (hl : gLk lv l) (e : gu1 l i v = l') : gLk (mzSt1 i v lv) l' := e ▸ gin_ok (by unfold mzSt1; rw [mzGet_cons, Nat.beq_refl]; rfl) (gf1_ok hl)
theorem gu2_ok {lv : mzL} {i : Nat} {v : Value} {l l' : List (Nat × Value)} (hl : gLk lv l) (e : gu2 l i v = l') : gLk (mzSt2 i v lv) l' := e ▸ gin_ok (by unfold mzSt2; rw [mzGet_cons, Nat.beq_refl]; rfl) (gf2_ok hl)
/-- fewer locals known -/
def gsub (l l' : List (Nat × Value)) : Prop := ∀ lv, gLk lv l → gLk lv l'
def gpk (l : List (Nat × Value)) : List Nat → List (Nat × Value)
  | [] => []
  | i :: r => match gk l i with
    | some v => (i, v) :: gpk l r
    | none => gpk l r
theorem gpk_ok {lv : mzL} {l : List (Nat × Value)} (h : gLk lv l) : ∀ (r : List Nat), gLk lv (gpk l r)
  | [] => trivial
  | i :: r => by
    unfold gpk
    split
    · rename_i v e; exact ⟨gLk_get h e, gpk_ok h r⟩
    · exact gpk_ok h r
section
variable {nL : Nat} {bl : mzB} {r : List mzO} {l : List (Nat × Value)} {st : List Value} {H : mzH} {c s : Nat} {Q : Option Value → mzH → Prop} {pc x y : Nat} {ts : List Nat}
theorem gG_pick (is : List Nat) {l' : List (Nat × Value)} {ops : List mzO} (e : gpk l is = l') (K : gG nL bl ops l' st H c s Q) : gG nL bl ops l st H c s Q := fun lv hl => K lv (e ▸ gpk_ok hl is)
theorem gG_call {j : Nat} {as : List Value} (l : List (Nat × Value)) (hl : gLk (lv_args 0 as) l) (K : gG (zN j) (zB j) (mzBlk (zB j) 0) l [] H 0 0 Q) : gCall j as H Q := K _ hl
theorem gGo_mono {ops : List mzO} {lv : mzL} {P : Option Value → mzH → Prop} (h : gGo nL bl ops lv st H c s P) (hp : ∀ o H', P o H' → Q o H') : gGo nL bl ops lv st H c s Q := by
  obtain ⟨o, H', h1, h2⟩ := h
  exact ⟨o, H', hp o H' h1, h2⟩
theorem g_stp {ops ops' : List mzO} {lv lv' : mzL} {st st' : List Value} {H H1 : mzH} {c s c' s' : Nat} (h : ∀ g, mzStp (zEx g) nL bl ops lv st H c s = zEx g nL bl ops' lv' st' H1 c' s') (K : gGo nL bl ops' lv' st' H1 c' s' Q) : gGo nL bl ops lv st H c s Q := by
  obtain ⟨o, H2, hq, f0, hf⟩ := K
  refine ⟨o, H2, hq, f0 + 1, fun f hle => ?_⟩
  obtain ⟨g, rfl⟩ : ∃ g, f = g + 1 := ⟨f - 1, by omega⟩
  exact (h g).trans (hf g (by omega))
theorem g_nop (K : gG nL bl (mzBlk bl x) l st H c s Q) : gG nL bl ((pc, .nop, x, y, ts) :: r) l st H c s Q := fun lv hl => g_stp (fun _ => rfl) (K lv hl)
theorem g_goto {n : Int} (K : gG nL bl (mzBlk bl x) l st H c s Q) : gG nL bl ((pc, .goto n, x, y, ts) :: r) l st H c s Q := fun lv hl => g_stp (fun _ => rfl) (K lv hl)
theorem g_iconst {n : Int} (h : (Int32.ofInt n).toInt = n) (K : ∀ v : Int32, v.toInt = n → gG nL bl r l (.int v :: st) H c s Q) : gG nL bl ((pc, .iconst n, x, y, ts) :: r) l st H c s Q := fun lv hl => g_stp (fun _ => rfl) (K _ h lv hl)
theorem g_bipush {n : Int} (h : (Int8.ofInt n).toInt32.toInt = n) (K : ∀ v : Int32, v.toInt = n → gG nL bl r l (.int v :: st) H c s Q) : gG nL bl ((pc, .bipush n, x, y, ts) :: r) l st H c s Q := fun lv hl => g_stp (fun _ => rfl) (K _ h lv hl)
theorem g_sipush {n : Int} (h : (Int16.ofInt n).toInt32.toInt = n) (K : ∀ v : Int32, v.toInt = n → gG nL bl r l (.int v :: st) H c s Q) : gG nL bl ((pc, .sipush n, x, y, ts) :: r) l st H c s Q := fun lv hl => g_stp (fun _ => rfl) (K _ h lv hl)
theorem g_ldc {q t : Nat} (h : (Int32.ofNat x).toInt = x) (K : ∀ v : Int32, v.toInt = x → gG nL bl r l (.int v :: st) H c s Q) : gG nL bl ((pc, .ldc q, x, y, [t]) :: r) l st H c s Q := fun lv hl => g_stp (fun _ => rfl) (K _ h lv hl)
theorem g_ldc2 {q t : Nat} (K : ∀ v : Int64, v = Int64.ofNat x → gG nL bl r l (.long v :: st) H c s Q) : gG nL bl ((pc, .ldc2_w q, x, y, [t]) :: r) l st H c s Q := fun lv hl => g_stp (fun _ => rfl) (K _ rfl lv hl)
theorem g_lconst {n : Fin 2} (K : ∀ v : Int64, v = Int64.ofNat (n : Nat) → gG nL bl r l (.long v :: st) H c s Q) : gG nL bl ((pc, .lconst n, x, y, ts) :: r) l st H c s Q := fun lv hl => g_stp (fun _ => rfl) (K _ rfl lv hl)
theorem g_iload {k : Nat} {v : Int32} (h : gk l k = some (.int v)) (K : gG nL bl r l (.int v :: st) H c s Q) : gG nL bl ((pc, .iload k, x, y, ts) :: r) l st H c s Q := fun lv hl => g_stp (fun g => by show mzIld k (zEx g nL bl r) lv st H c s = _; unfold mzIld; rw [gLk_get hl h]) (K lv hl)
theorem g_iload_n {k : Fin 4} {v : Int32} (h : gk l (k : Nat) = some (.int v)) (K : gG nL bl r l (.int v :: st) H c s Q) : gG nL bl ((pc, .iload_n k, x, y, ts) :: r) l st H c s Q := fun lv hl => g_stp (fun g => by show mzIld (k : Nat) (zEx g nL bl r) lv st H c s = _; unfold mzIld; rw [gLk_get hl h]) (K lv hl)
theorem g_lload {k : Nat} {v : Int64} (h : gk l k = some (.long v)) (K : gG nL bl r l (.long v :: st) H c s Q) : gG nL bl ((pc, .lload k, x, y, ts) :: r) l st H c s Q := fun lv hl => g_stp (fun g => by show mzLld k (zEx g nL bl r) lv st H c s = _; unfold mzLld; rw [gLk_get hl h]) (K lv hl)
theorem g_lload_n {k : Fin 4} {v : Int64} (h : gk l (k : Nat) = some (.long v)) (K : gG nL bl r l (.long v :: st) H c s Q) : gG nL bl ((pc, .lload_n k, x, y, ts) :: r) l st H c s Q := fun lv hl => g_stp (fun g => by show mzLld (k : Nat) (zEx g nL bl r) lv st H c s = _; unfold mzLld; rw [gLk_get hl h]) (K lv hl)
theorem g_aload {k : Nat} {v : Nat} (h : gk l k = some (.ref v)) (K : gG nL bl r l (.ref v :: st) H c s Q) : gG nL bl ((pc, .aload k, x, y, ts) :: r) l st H c s Q := fun lv hl => g_stp (fun g => by show mzAld k (zEx g nL bl r) lv st H c s = _; unfold mzAld; rw [gLk_get hl h]) (K lv hl)
theorem g_aload_n {k : Fin 4} {v : Nat} (h : gk l (k : Nat) = some (.ref v)) (K : gG nL bl r l (.ref v :: st) H c s Q) : gG nL bl ((pc, .aload_n k, x, y, ts) :: r) l st H c s Q := fun lv hl => g_stp (fun g => by show mzAld (k : Nat) (zEx g nL bl r) lv st H c s = _; unfold mzAld; rw [gLk_get hl h]) (K lv hl)
theorem g_istore {k : Nat} {v : Int32} {l' : List (Nat × Value)} (hn : Nat.blt k nL = true) (e : gu1 l k (.int v) = l') (K : gG nL bl r l' st H c s Q) : gG nL bl ((pc, .istore k, x, y, ts) :: r) l (.int v :: st) H c s Q := fun lv hl => g_stp (fun g => by show (bif Nat.blt k nL then _ else _) = _; rw [hn]; rfl) (K _ (gu1_ok hl e))
theorem g_istore_n {k : Fin 4} {v : Int32} {l' : List (Nat × Value)} (hn : Nat.blt (k : Nat) nL = true) (e : gu1 l (k : Nat) (.int v) = l') (K : gG nL bl r l' st H c s Q) : gG nL bl ((pc, .istore_n k, x, y, ts) :: r) l (.int v :: st) H c s Q := fun lv hl => g_stp (fun g => by show (bif Nat.blt (k : Nat) nL then _ else _) = _; rw [hn]; rfl) (K _ (gu1_ok hl e))
theorem g_astore {k : Nat} {v : Nat} {l' : List (Nat × Value)} (hn : Nat.blt k nL = true) (e : gu1 l k (.ref v) = l') (K : gG nL bl r l' st H c s Q) : gG nL bl ((pc, .astore k, x, y, ts) :: r) l (.ref v :: st) H c s Q := fun lv hl => g_stp (fun g => by show (bif Nat.blt k nL then _ else _) = _; rw [hn]; rfl) (K _ (gu1_ok hl e))
theorem g_lstore {k : Nat} {v : Int64} {l' : List (Nat × Value)} (hn : Nat.blt (k + 1) nL = true) (e : gu2 l k (.long v) = l') (K : gG nL bl r l' st H c s Q) : gG nL bl ((pc, .lstore k, x, y, ts) :: r) l (.long v :: st) H c s Q := fun lv hl => g_stp (fun g => by show (bif Nat.blt (k + 1) nL then _ else _) = _; rw [hn]; rfl) (K _ (gu2_ok hl e))
theorem g_lstore_n {k : Fin 4} {v : Int64} {l' : List (Nat × Value)} (hn : Nat.blt ((k : Nat) + 1) nL = true) (e : gu2 l (k : Nat) (.long v) = l') (K : gG nL bl r l' st H c s Q) : gG nL bl ((pc, .lstore_n k, x, y, ts) :: r) l (.long v :: st) H c s Q := fun lv hl => g_stp (fun g => by show (bif Nat.blt ((k : Nat) + 1) nL then _ else _) = _; rw [hn]; rfl) (K _ (gu2_ok hl e))
theorem gz_any (v : Int32) : -2147483648 ≤ v.toInt ∧ v.toInt ≤ 2147483647 := by
  have h1 := Int32.le_toInt v
  have h2 := Int32.toInt_lt v
  omega
theorem gz_ofInt {n : Int} (h1 : -2147483648 ≤ n) (h2 : n ≤ 2147483647) : (Int32.ofInt n).toInt = n := Int32.toInt_ofInt_of_le h1 (by omega)
theorem gz_add {a b : Int32} (h : -2147483648 ≤ a.toInt + b.toInt ∧ a.toInt + b.toInt ≤ 2147483647) : (a + b).toInt = a.toInt + b.toInt := by
  have e : a + b = Int32.ofInt (a.toInt + b.toInt) := by rw [Int32.ofInt_add, Int32.ofInt_toInt, Int32.ofInt_toInt]
  rw [e, gz_ofInt h.1 h.2]
theorem gz_sub {a b : Int32} (h : -2147483648 ≤ a.toInt - b.toInt ∧ a.toInt - b.toInt ≤ 2147483647) : (a - b).toInt = a.toInt - b.toInt := by
  have e : a - b = Int32.ofInt (a.toInt - b.toInt) := by rw [Int32.ofInt_sub, Int32.ofInt_toInt, Int32.ofInt_toInt]
  rw [e, gz_ofInt h.1 h.2]
theorem gz_mul {a b : Int32} (h : -2147483648 ≤ a.toInt * b.toInt ∧ a.toInt * b.toInt ≤ 2147483647) : (a * b).toInt = a.toInt * b.toInt := by
  have e : a * b = Int32.ofInt (a.toInt * b.toInt) := by rw [Int32.ofInt_mul, Int32.ofInt_toInt, Int32.ofInt_toInt]
  rw [e, gz_ofInt h.1 h.2]
theorem gz_and {a b : Int32} (h : 0 ≤ b.toInt) : 0 ≤ (a &&& b).toInt ∧ (a &&& b).toInt ≤ b.toInt := by
  have h1 : (a &&& b).toBitVec = a.toBitVec &&& b.toBitVec := rfl
  have h2 : b.toInt = b.toBitVec.toInt := rfl
  have h3 : (a &&& b).toInt = (a.toBitVec &&& b.toBitVec).toInt := rfl
  have h4 : b.toBitVec.toNat < 2147483648 := by
    rw [h2, BitVec.toInt_eq_toNat_cond] at h
    have := b.toBitVec.isLt
    split at h <;> omega
  have h5 : (a.toBitVec &&& b.toBitVec).toNat ≤ b.toBitVec.toNat := by rw [BitVec.toNat_and]; exact Nat.and_le_right
  rw [h3, h2, BitVec.toInt_eq_toNat_cond, BitVec.toInt_eq_toNat_cond, if_pos (by omega), if_pos (by omega)]
  omega
theorem g_iinc {k : Nat} {d : Int} {v : Int32} {l' : Int32 → List (Nat × Value)} (hg : gk l k = some (.int v)) (hn : Nat.blt k nL = true) (hd : (Int32.ofInt d).toInt = d) (h : -2147483648 ≤ v.toInt + d ∧ v.toInt + d ≤ 2147483647) (e : ∀ u, gu1 l k (.int u) = l' u) (K : ∀ u : Int32, u.toInt = v.toInt + d → gG nL bl r (l' u) st H c s Q) : gG nL bl ((pc, .iinc k d, x, y, ts) :: r) l st H c s Q := fun lv hl => g_stp (fun g => by show mzInc nL k d (zEx g nL bl r) lv st H c s = _; unfold mzInc; rw [gLk_get hl hg]; show (bif Nat.blt k nL then _ else _) = _; rw [hn]; rfl) (K _ (by rw [gz_add (by rw [hd]; exact h), hd]) _ (gu1_ok hl (e _)))
theorem g_iinc' {k : Nat} {d : Int} {v : Int32} {l' : Int32 → List (Nat × Value)} (hg : gk l k = some (.int v)) (hn : Nat.blt k nL = true) (e : ∀ u, gu1 l k (.int u) = l' u) (K : ∀ u : Int32, gG nL bl r (l' u) st H c s Q) : gG nL bl ((pc, .iinc k d, x, y, ts) :: r) l st H c s Q := fun lv hl => g_stp (fun g => by show mzInc nL k d (zEx g nL bl r) lv st H c s = _; unfold mzInc; rw [gLk_get hl hg]; show (bif Nat.blt k nL then _ else _) = _; rw [hn]; rfl) (K _ _ (gu1_ok hl (e _)))
theorem g_iadd {a b : Int32} (h : -2147483648 ≤ a.toInt + b.toInt ∧ a.toInt + b.toInt ≤ 2147483647) (K : ∀ v : Int32, v.toInt = a.toInt + b.toInt → gG nL bl r l (.int v :: st) H c s Q) : gG nL bl ((pc, .iadd, x, y, ts) :: r) l (.int b :: .int a :: st) H c s Q := fun lv hl => g_stp (fun _ => rfl) (K _ (gz_add h) lv hl)
theorem g_isub {a b : Int32} (h : -2147483648 ≤ a.toInt - b.toInt ∧ a.toInt - b.toInt ≤ 2147483647) (K : ∀ v : Int32, v.toInt = a.toInt - b.toInt → gG nL bl r l (.int v :: st) H c s Q) : gG nL bl ((pc, .isub, x, y, ts) :: r) l (.int b :: .int a :: st) H c s Q := fun lv hl => g_stp (fun _ => rfl) (K _ (gz_sub h) lv hl)
theorem g_imul {a b : Int32} (h : -2147483648 ≤ a.toInt * b.toInt ∧ a.toInt * b.toInt ≤ 2147483647) (K : ∀ v : Int32, v.toInt = a.toInt * b.toInt → gG nL bl r l (.int v :: st) H c s Q) : gG nL bl ((pc, .imul, x, y, ts) :: r) l (.int b :: .int a :: st) H c s Q := fun lv hl => g_stp (fun _ => rfl) (K _ (gz_mul h) lv hl)
theorem g_iadd' {a b : Int32} (K : ∀ v : Int32, v = (a + b) → gG nL bl r l (.int v :: st) H c s Q) : gG nL bl ((pc, .iadd, x, y, ts) :: r) l (.int b :: .int a :: st) H c s Q := fun lv hl => g_stp (fun _ => rfl) (K _ rfl lv hl)
theorem g_isub' {a b : Int32} (K : ∀ v : Int32, v = (a - b) → gG nL bl r l (.int v :: st) H c s Q) : gG nL bl ((pc, .isub, x, y, ts) :: r) l (.int b :: .int a :: st) H c s Q := fun lv hl => g_stp (fun _ => rfl) (K _ rfl lv hl)
theorem g_iand' {a b : Int32} (K : ∀ v : Int32, v = (a &&& b) → gG nL bl r l (.int v :: st) H c s Q) : gG nL bl ((pc, .iand, x, y, ts) :: r) l (.int b :: .int a :: st) H c s Q := fun lv hl => g_stp (fun _ => rfl) (K _ rfl lv hl)
theorem g_ior' {a b : Int32} (K : ∀ v : Int32, v = (a ||| b) → gG nL bl r l (.int v :: st) H c s Q) : gG nL bl ((pc, .ior, x, y, ts) :: r) l (.int b :: .int a :: st) H c s Q := fun lv hl => g_stp (fun _ => rfl) (K _ rfl lv hl)
theorem g_ixor' {a b : Int32} (K : ∀ v : Int32, v = (a ^^^ b) → gG nL bl r l (.int v :: st) H c s Q) : gG nL bl ((pc, .ixor, x, y, ts) :: r) l (.int b :: .int a :: st) H c s Q := fun lv hl => g_stp (fun _ => rfl) (K _ rfl lv hl)
theorem g_ishl' {a b : Int32} (K : ∀ v : Int32, v = (a <<< (b &&& 31)) → gG nL bl r l (.int v :: st) H c s Q) : gG nL bl ((pc, .ishl, x, y, ts) :: r) l (.int b :: .int a :: st) H c s Q := fun lv hl => g_stp (fun _ => rfl) (K _ rfl lv hl)
theorem g_ishr' {a b : Int32} (K : ∀ v : Int32, v = (a >>> (b &&& 31)) → gG nL bl r l (.int v :: st) H c s Q) : gG nL bl ((pc, .ishr, x, y, ts) :: r) l (.int b :: .int a :: st) H c s Q := fun lv hl => g_stp (fun _ => rfl) (K _ rfl lv hl)
theorem g_iushr' {a b : Int32} (K : ∀ v : Int32, v = ((a.toUInt32 >>> (b.toUInt32 &&& Int32.toUInt32 31)).toInt32) → gG nL bl r l (.int v :: st) H c s Q) : gG nL bl ((pc, .iushr, x, y, ts) :: r) l (.int b :: .int a :: st) H c s Q := fun lv hl => g_stp (fun _ => rfl) (K _ rfl lv hl)
theorem g_iand {a b : Int32} (h : 0 ≤ b.toInt) (K : ∀ v : Int32, v = a &&& b → 0 ≤ v.toInt → v.toInt ≤ b.toInt → gG nL bl r l (.int v :: st) H c s Q) : gG nL bl ((pc, .iand, x, y, ts) :: r) l (.int b :: .int a :: st) H c s Q := fun lv hl => g_stp (fun _ => rfl) (K _ rfl (gz_and h).1 (gz_and h).2 lv hl)
theorem g_irem' {a b : Int32} (h : b.toInt ≠ 0) (K : ∀ v : Int32, v = a - a / b * b → gG nL bl r l (.int v :: st) H c s Q) : gG nL bl ((pc, .irem, x, y, ts) :: r) l (.int b :: .int a :: st) H c s Q := fun lv hl => g_stp (fun g => by show (bif decide (b = 0) then none else _) = _; rw [decide_eq_false (fun e => h (by rw [e]; rfl))]; rfl) (K _ rfl lv hl)
theorem g_i2b {a : Int32} (K : ∀ v : Int32, v = a.toInt8.toInt32 → gG nL bl r l (.int v :: st) H c s Q) : gG nL bl ((pc, .i2b, x, y, ts) :: r) l (.int a :: st) H c s Q := fun lv hl => g_stp (fun _ => rfl) (K _ rfl lv hl)
theorem g_l2i {a : Int64} (K : ∀ v : Int32, v = a.toInt32 → gG nL bl r l (.int v :: st) H c s Q) : gG nL bl ((pc, .l2i, x, y, ts) :: r) l (.long a :: st) H c s Q := fun lv hl => g_stp (fun _ => rfl) (K _ rfl lv hl)
theorem g_lcmp {a b : Int64} (K : ∀ v : Int32, v = lg_cmp a b → gG nL bl r l (.int v :: st) H c s Q) : gG nL bl ((pc, .lcmp, x, y, ts) :: r) l (.long b :: .long a :: st) H c s Q := fun lv hl => g_stp (fun _ => rfl) (K _ rfl lv hl)
theorem g_dup {v : Value} (h : Nat.beq v.category 1 = true) (K : gG nL bl r l (v :: v :: st) H c s Q) : gG nL bl ((pc, .dup, x, y, ts) :: r) l (v :: st) H c s Q := fun lv hl => g_stp (fun g => by show (bif Nat.beq v.category 1 then _ else _) = _; rw [h]; rfl) (K lv hl)
theorem g_dup2 {v u : Value} (h : (Nat.beq v.category 1 && Nat.beq u.category 1) = true) (K : gG nL bl r l (v :: u :: v :: u :: st) H c s Q) : gG nL bl ((pc, .dup2, x, y, ts) :: r) l (v :: u :: st) H c s Q := fun lv hl => g_stp (fun g => by show (bif Nat.beq v.category 1 && Nat.beq u.category 1 then _ else _) = _; rw [h]; rfl) (K lv hl)
theorem g_pop {v : Value} (h : Nat.beq v.category 1 = true) (K : gG nL bl r l st H c s Q) : gG nL bl ((pc, .pop, x, y, ts) :: r) l (v :: st) H c s Q := fun lv hl => g_stp (fun g => by show (bif Nat.beq v.category 1 then _ else _) = _; rw [h]; rfl) (K lv hl)
theorem g_ladd {a b : Int64} (K : ∀ v : Int64, v = (a + b) → gG nL bl r l (.long v :: st) H c s Q) : gG nL bl ((pc, .ladd, x, y, ts) :: r) l (.long b :: .long a :: st) H c s Q := fun lv hl => g_stp (fun _ => rfl) (K _ rfl lv hl)
theorem g_lsub {a b : Int64} (K : ∀ v : Int64, v = (a - b) → gG nL bl r l (.long v :: st) H c s Q) : gG nL bl ((pc, .lsub, x, y, ts) :: r) l (.long b :: .long a :: st) H c s Q := fun lv hl => g_stp (fun _ => rfl) (K _ rfl lv hl)
theorem g_land {a b : Int64} (K : ∀ v : Int64, v = (a &&& b) → gG nL bl r l (.long v :: st) H c s Q) : gG nL bl ((pc, .land, x, y, ts) :: r) l (.long b :: .long a :: st) H c s Q := fun lv hl => g_stp (fun _ => rfl) (K _ rfl lv hl)
theorem g_lor {a b : Int64} (K : ∀ v : Int64, v = (a ||| b) → gG nL bl r l (.long v :: st) H c s Q) : gG nL bl ((pc, .lor, x, y, ts) :: r) l (.long b :: .long a :: st) H c s Q := fun lv hl => g_stp (fun _ => rfl) (K _ rfl lv hl)
theorem g_lshl {a : Int64} {b : Int32} (K : ∀ v : Int64, v = (a <<< (b.toInt64 &&& 63)) → gG nL bl r l (.long v :: st) H c s Q) : gG nL bl ((pc, .lshl, x, y, ts) :: r) l (.int b :: .long a :: st) H c s Q := fun lv hl => g_stp (fun _ => rfl) (K _ rfl lv hl)
theorem g_lushr {a : Int64} {b : Int32} (K : ∀ v : Int64, v = ((a.toUInt64 >>> (b.toInt64.toUInt64 &&& Int64.toUInt64 63)).toInt64) → gG nL bl r l (.long v :: st) H c s Q) : gG nL bl ((pc, .lushr, x, y, ts) :: r) l (.int b :: .long a :: st) H c s Q := fun lv hl => g_stp (fun _ => rfl) (K _ rfl lv hl)
theorem gz_eq {a b : Int32} : mzEq a b = decide (a.toInt = b.toInt) := by rw [mzEq_eq]; exact decide_eq_decide.mpr Int32.toInt_inj.symm
theorem gz_lt {a b : Int32} : mzLt a b = decide (a.toInt < b.toInt) := by rw [mzLt_eq]; exact decide_eq_decide.mpr Int32.lt_iff_toInt_lt
theorem gc_eq {a b : Int32} : (mzCnd .eq a b = true → a.toInt = b.toInt) ∧ (mzCnd .eq a b = false → ¬ a.toInt = b.toInt) := by
  have e : mzCnd .eq a b = (mzEq a b) := rfl
  rw [e]
  simp only [gz_eq, gz_lt, Bool.not_eq_true', Bool.not_eq_false', decide_eq_true_eq, decide_eq_false_iff_not]
  constructor <;> intro h <;> omega
theorem g_if2_eq {a b : Int32} {n : Int} (K1 : a.toInt = b.toInt → gG nL bl (mzBlk bl x) l st H c s Q) (K2 : ¬ a.toInt = b.toInt → gG nL bl r l st H c s Q) : gG nL bl ((pc, .if_icmp .eq n, x, y, ts) :: r) l (.int b :: .int a :: st) H c s Q := fun lv hl => by
  cases e : mzCnd .eq a b with
  | true => exact g_stp (fun g => by show mzIf2 .eq (zEx g nL bl (mzBlk bl x)) (zEx g nL bl r) lv (.int b :: .int a :: st) H c s = _; unfold mzIf2; simp only [e, cond_true, cond_false]) (K1 (gc_eq.1 e) lv hl)
  | false => exact g_stp (fun g => by show mzIf2 .eq (zEx g nL bl (mzBlk bl x)) (zEx g nL bl r) lv (.int b :: .int a :: st) H c s = _; unfold mzIf2; simp only [e, cond_true, cond_false]) (K2 (gc_eq.2 e) lv hl)
theorem g_if_eq {a : Int32} {n : Int} (K1 : a.toInt = 0 → gG nL bl (mzBlk bl x) l st H c s Q) (K2 : ¬ a.toInt = 0 → gG nL bl r l st H c s Q) : gG nL bl ((pc, .ifCond .eq n, x, y, ts) :: r) l (.int a :: st) H c s Q := fun lv hl => by
  cases e : mzCnd .eq a 0 with
  | true => exact g_stp (fun g => by show mzIf .eq (zEx g nL bl (mzBlk bl x)) (zEx g nL bl r) lv (.int a :: st) H c s = _; unfold mzIf; simp only [e, cond_true, cond_false]) (K1 (by have := gc_eq.1 e; rw [Int32.toInt_zero] at this; exact this) lv hl)
  | false => exact g_stp (fun g => by show mzIf .eq (zEx g nL bl (mzBlk bl x)) (zEx g nL bl r) lv (.int a :: st) H c s = _; unfold mzIf; simp only [e, cond_true, cond_false]) (K2 (by have := gc_eq.2 e; rw [Int32.toInt_zero] at this; exact this) lv hl)
theorem gc_ne {a b : Int32} : (mzCnd .ne a b = true → ¬ a.toInt = b.toInt) ∧ (mzCnd .ne a b = false → a.toInt = b.toInt) := by
  have e : mzCnd .ne a b = (!mzEq a b) := rfl
  rw [e]
  simp only [gz_eq, gz_lt, Bool.not_eq_true', Bool.not_eq_false', decide_eq_true_eq, decide_eq_false_iff_not]
  constructor <;> intro h <;> omega
theorem g_if2_ne {a b : Int32} {n : Int} (K1 : ¬ a.toInt = b.toInt → gG nL bl (mzBlk bl x) l st H c s Q) (K2 : a.toInt = b.toInt → gG nL bl r l st H c s Q) : gG nL bl ((pc, .if_icmp .ne n, x, y, ts) :: r) l (.int b :: .int a :: st) H c s Q := fun lv hl => by
  cases e : mzCnd .ne a b with
  | true => exact g_stp (fun g => by show mzIf2 .ne (zEx g nL bl (mzBlk bl x)) (zEx g nL bl r) lv (.int b :: .int a :: st) H c s = _; unfold mzIf2; simp only [e, cond_true, cond_false]) (K1 (gc_ne.1 e) lv hl)
  | false => exact g_stp (fun g => by show mzIf2 .ne (zEx g nL bl (mzBlk bl x)) (zEx g nL bl r) lv (.int b :: .int a :: st) H c s = _; unfold mzIf2; simp only [e, cond_true, cond_false]) (K2 (gc_ne.2 e) lv hl)
theorem g_if_ne {a : Int32} {n : Int} (K1 : ¬ a.toInt = 0 → gG nL bl (mzBlk bl x) l st H c s Q) (K2 : a.toInt = 0 → gG nL bl r l st H c s Q) : gG nL bl ((pc, .ifCond .ne n, x, y, ts) :: r) l (.int a :: st) H c s Q := fun lv hl => by
  cases e : mzCnd .ne a 0 with
  | true => exact g_stp (fun g => by show mzIf .ne (zEx g nL bl (mzBlk bl x)) (zEx g nL bl r) lv (.int a :: st) H c s = _; unfold mzIf; simp only [e, cond_true, cond_false]) (K1 (by have := gc_ne.1 e; rw [Int32.toInt_zero] at this; exact this) lv hl)
  | false => exact g_stp (fun g => by show mzIf .ne (zEx g nL bl (mzBlk bl x)) (zEx g nL bl r) lv (.int a :: st) H c s = _; unfold mzIf; simp only [e, cond_true, cond_false]) (K2 (by have := gc_ne.2 e; rw [Int32.toInt_zero] at this; exact this) lv hl)
theorem gc_lt {a b : Int32} : (mzCnd .lt a b = true → a.toInt < b.toInt) ∧ (mzCnd .lt a b = false → b.toInt ≤ a.toInt) := by
  have e : mzCnd .lt a b = (mzLt a b) := rfl
  rw [e]
  simp only [gz_eq, gz_lt, Bool.not_eq_true', Bool.not_eq_false', decide_eq_true_eq, decide_eq_false_iff_not]
  constructor <;> intro h <;> omega
theorem g_if2_lt {a b : Int32} {n : Int} (K1 : a.toInt < b.toInt → gG nL bl (mzBlk bl x) l st H c s Q) (K2 : b.toInt ≤ a.toInt → gG nL bl r l st H c s Q) : gG nL bl ((pc, .if_icmp .lt n, x, y, ts) :: r) l (.int b :: .int a :: st) H c s Q := fun lv hl => by
  cases e : mzCnd .lt a b with
  | true => exact g_stp (fun g => by show mzIf2 .lt (zEx g nL bl (mzBlk bl x)) (zEx g nL bl r) lv (.int b :: .int a :: st) H c s = _; unfold mzIf2; simp only [e, cond_true, cond_false]) (K1 (gc_lt.1 e) lv hl)
  | false => exact g_stp (fun g => by show mzIf2 .lt (zEx g nL bl (mzBlk bl x)) (zEx g nL bl r) lv (.int b :: .int a :: st) H c s = _; unfold mzIf2; simp only [e, cond_true, cond_false]) (K2 (gc_lt.2 e) lv hl)
theorem g_if_lt {a : Int32} {n : Int} (K1 : a.toInt < 0 → gG nL bl (mzBlk bl x) l st H c s Q) (K2 : 0 ≤ a.toInt → gG nL bl r l st H c s Q) : gG nL bl ((pc, .ifCond .lt n, x, y, ts) :: r) l (.int a :: st) H c s Q := fun lv hl => by
  cases e : mzCnd .lt a 0 with
  | true => exact g_stp (fun g => by show mzIf .lt (zEx g nL bl (mzBlk bl x)) (zEx g nL bl r) lv (.int a :: st) H c s = _; unfold mzIf; simp only [e, cond_true, cond_false]) (K1 (by have := gc_lt.1 e; rw [Int32.toInt_zero] at this; exact this) lv hl)
  | false => exact g_stp (fun g => by show mzIf .lt (zEx g nL bl (mzBlk bl x)) (zEx g nL bl r) lv (.int a :: st) H c s = _; unfold mzIf; simp only [e, cond_true, cond_false]) (K2 (by have := gc_lt.2 e; rw [Int32.toInt_zero] at this; exact this) lv hl)
theorem gc_ge {a b : Int32} : (mzCnd .ge a b = true → b.toInt ≤ a.toInt) ∧ (mzCnd .ge a b = false → a.toInt < b.toInt) := by
  have e : mzCnd .ge a b = (!mzLt a b) := rfl
  rw [e]
  simp only [gz_eq, gz_lt, Bool.not_eq_true', Bool.not_eq_false', decide_eq_true_eq, decide_eq_false_iff_not]
  constructor <;> intro h <;> omega
theorem g_if2_ge {a b : Int32} {n : Int} (K1 : b.toInt ≤ a.toInt → gG nL bl (mzBlk bl x) l st H c s Q) (K2 : a.toInt < b.toInt → gG nL bl r l st H c s Q) : gG nL bl ((pc, .if_icmp .ge n, x, y, ts) :: r) l (.int b :: .int a :: st) H c s Q := fun lv hl => by
  cases e : mzCnd .ge a b with
  | true => exact g_stp (fun g => by show mzIf2 .ge (zEx g nL bl (mzBlk bl x)) (zEx g nL bl r) lv (.int b :: .int a :: st) H c s = _; unfold mzIf2; simp only [e, cond_true, cond_false]) (K1 (gc_ge.1 e) lv hl)
  | false => exact g_stp (fun g => by show mzIf2 .ge (zEx g nL bl (mzBlk bl x)) (zEx g nL bl r) lv (.int b :: .int a :: st) H c s = _; unfold mzIf2; simp only [e, cond_true, cond_false]) (K2 (gc_ge.2 e) lv hl)
theorem g_if_ge {a : Int32} {n : Int} (K1 : 0 ≤ a.toInt → gG nL bl (mzBlk bl x) l st H c s Q) (K2 : a.toInt < 0 → gG nL bl r l st H c s Q) : gG nL bl ((pc, .ifCond .ge n, x, y, ts) :: r) l (.int a :: st) H c s Q := fun lv hl => by
  cases e : mzCnd .ge a 0 with
  | true => exact g_stp (fun g => by show mzIf .ge (zEx g nL bl (mzBlk bl x)) (zEx g nL bl r) lv (.int a :: st) H c s = _; unfold mzIf; simp only [e, cond_true, cond_false]) (K1 (by have := gc_ge.1 e; rw [Int32.toInt_zero] at this; exact this) lv hl)
  | false => exact g_stp (fun g => by show mzIf .ge (zEx g nL bl (mzBlk bl x)) (zEx g nL bl r) lv (.int a :: st) H c s = _; unfold mzIf; simp only [e, cond_true, cond_false]) (K2 (by have := gc_ge.2 e; rw [Int32.toInt_zero] at this; exact this) lv hl)
theorem gc_gt {a b : Int32} : (mzCnd .gt a b = true → b.toInt < a.toInt) ∧ (mzCnd .gt a b = false → a.toInt ≤ b.toInt) := by
  have e : mzCnd .gt a b = (mzLt b a) := rfl
  rw [e]
  simp only [gz_eq, gz_lt, Bool.not_eq_true', Bool.not_eq_false', decide_eq_true_eq, decide_eq_false_iff_not]
  constructor <;> intro h <;> omega
theorem g_if2_gt {a b : Int32} {n : Int} (K1 : b.toInt < a.toInt → gG nL bl (mzBlk bl x) l st H c s Q) (K2 : a.toInt ≤ b.toInt → gG nL bl r l st H c s Q) : gG nL bl ((pc, .if_icmp .gt n, x, y, ts) :: r) l (.int b :: .int a :: st) H c s Q := fun lv hl => by
  cases e : mzCnd .gt a b with
  | true => exact g_stp (fun g => by show mzIf2 .gt (zEx g nL bl (mzBlk bl x)) (zEx g nL bl r) lv (.int b :: .int a :: st) H c s = _; unfold mzIf2; simp only [e, cond_true, cond_false]) (K1 (gc_gt.1 e) lv hl)
  | false => exact g_stp (fun g => by show mzIf2 .gt (zEx g nL bl (mzBlk bl x)) (zEx g nL bl r) lv (.int b :: .int a :: st) H c s = _; unfold mzIf2; simp only [e, cond_true, cond_false]) (K2 (gc_gt.2 e) lv hl)
theorem gc_le {a b : Int32} : (mzCnd .le a b = true → a.toInt ≤ b.toInt) ∧ (mzCnd .le a b = false → b.toInt < a.toInt) := by
  have e : mzCnd .le a b = (!mzLt b a) := rfl
  rw [e]
  simp only [gz_eq, gz_lt, Bool.not_eq_true', Bool.not_eq_false', decide_eq_true_eq, decide_eq_false_iff_not]
  constructor <;> intro h <;> omega
theorem g_if2_le {a b : Int32} {n : Int} (K1 : a.toInt ≤ b.toInt → gG nL bl (mzBlk bl x) l st H c s Q) (K2 : b.toInt < a.toInt → gG nL bl r l st H c s Q) : gG nL bl ((pc, .if_icmp .le n, x, y, ts) :: r) l (.int b :: .int a :: st) H c s Q := fun lv hl => by
  cases e : mzCnd .le a b with
  | true => exact g_stp (fun g => by show mzIf2 .le (zEx g nL bl (mzBlk bl x)) (zEx g nL bl r) lv (.int b :: .int a :: st) H c s = _; unfold mzIf2; simp only [e, cond_true, cond_false]) (K1 (gc_le.1 e) lv hl)
  | false => exact g_stp (fun g => by show mzIf2 .le (zEx g nL bl (mzBlk bl x)) (zEx g nL bl r) lv (.int b :: .int a :: st) H c s = _; unfold mzIf2; simp only [e, cond_true, cond_false]) (K2 (gc_le.2 e) lv hl)
theorem g_if_le {a : Int32} {n : Int} (K1 : a.toInt ≤ 0 → gG nL bl (mzBlk bl x) l st H c s Q) (K2 : 0 < a.toInt → gG nL bl r l st H c s Q) : gG nL bl ((pc, .ifCond .le n, x, y, ts) :: r) l (.int a :: st) H c s Q := fun lv hl => by
  cases e : mzCnd .le a 0 with
  | true => exact g_stp (fun g => by show mzIf .le (zEx g nL bl (mzBlk bl x)) (zEx g nL bl r) lv (.int a :: st) H c s = _; unfold mzIf; simp only [e, cond_true, cond_false]) (K1 (by have := gc_le.1 e; rw [Int32.toInt_zero] at this; exact this) lv hl)
  | false => exact g_stp (fun g => by show mzIf .le (zEx g nL bl (mzBlk bl x)) (zEx g nL bl r) lv (.int a :: st) H c s = _; unfold mzIf; simp only [e, cond_true, cond_false]) (K2 (by have := gc_le.2 e; rw [Int32.toInt_zero] at this; exact this) lv hl)
def gsw (P : Nat → Prop) (a : Int) : List Nat → Int → Prop
  | [], _ => True
  | b :: r, lo => (a = lo → P b) ∧ gsw P a r (lo + 1)
theorem gsw_at {P : Nat → Prop} {a : Int} : ∀ {ts : List Nat} {lo : Int}, gsw P a ts lo → ∀ {b : Nat}, lo ≤ a → ts[(a - lo).toNat]? = some b → P b
  | [], _, _, _, _, h => by simp at h
  | b :: r, lo, hs, b2, hle, h => by
    if e : a = lo then
      rw [e, Int.sub_self] at h
      simp only [Int.toNat_zero, List.getElem?_cons_zero, Option.some.injEq] at h
      exact h ▸ hs.1 e
    else
      have e2 : (a - lo).toNat = (a - (lo + 1)).toNat + 1 := by omega
      rw [e2, List.getElem?_cons_succ] at h
      exact gsw_at hs.2 (by omega) h
theorem g_sw {a : Int32} {df lo hi : Int} {os : Array Int} (hlen : hi - lo + 1 ≤ (ts.length : Int)) (Kd : a.toInt < lo ∨ hi < a.toInt → gG nL bl (mzBlk bl x) l st H c s Q) (K : gsw (fun b => gG nL bl (mzBlk bl b) l st H c s Q) a.toInt ts lo) : gG nL bl ((pc, .tableswitch df lo hi os, x, y, ts) :: r) l (.int a :: st) H c s Q := fun lv hl => by
  if e : a.toInt < lo ∨ hi < a.toInt then
    refine g_stp (fun g => ?_) (Kd e lv hl)
    show (bif decide (a.toInt < lo) || decide (hi < a.toInt) then _ else _) = _
    rw [show (decide (a.toInt < lo) || decide (hi < a.toInt)) = true by simpa using e]; rfl
  else
    have h1 : (a.toInt - lo).toNat < ts.length := by omega
    refine g_stp (fun g => ?_) (gsw_at K (b := ts[(a.toInt - lo).toNat]) (by omega) (List.getElem?_eq_getElem h1) lv hl)
    show (bif decide (a.toInt < lo) || decide (hi < a.toInt) then _ else match mzNq ts (a.toInt - lo).toNat with
      | some b => zEx g nL bl (mzBlk bl b) lv st H c s
      | none => none) = _
    rw [show (decide (a.toInt < lo) || decide (hi < a.toInt)) = false by simpa using e, cond_false, mzNq_eq, List.getElem?_eq_getElem h1]
/-- what a field, a cell must hold: a reference to a cell, or an int of an interval; an array of a kind, a length, ints of an interval; an object -/
abbrev gFs : Type := Nat ⊕ (Int × Int)
abbrev gSp : Type := (Nat × Nat × Int × Int) ⊕ (Nat × List gFs)
def gFo : gFs → Value → Prop
  | .inl q, v => v = .ref q
  | .inr (lo, hi), v => ∃ z : Int32, v = .int z ∧ lo ≤ z.toInt ∧ z.toInt ≤ hi
def gCo : gSp → mzC → Prop
  | .inl (d, n, lo, hi), .inl (e, k) => e = d ∧ k.length = n ∧ ∀ v ∈ k, lo ≤ v.toInt ∧ v.toInt ≤ hi
  | .inr (d, fs), .inr (e, vs) => e = d ∧ vs.length = fs.length ∧ ∀ (i : Nat) f, fs[i]? = some f → ∃ v, vs[i]? = some v ∧ gFo f v
  | _, _ => False
def gI (S : List gSp) (H : mzH) : Prop := H.length = S.length ∧ ∀ (a : Nat) sp, S[a]? = some sp → ∃ cl, H[a]? = some cl ∧ gCo sp cl
/-- an int field, an array's int; a field set, an array's place set, an array copied whole -/
def fZ (H : mzH) (a f : Nat) : Int32 := match H[a]? with
  | some (.inr (_, fs)) => (match fs[f]? with | some (.int v) => v | _ => 0)
  | _ => 0
def aZ (H : mzH) (a i : Nat) : Int32 := match H[a]? with
  | some (.inl (_, k)) => k.getD i 0
  | _ => 0
def sF (H : mzH) (a f : Nat) (v : Int32) : mzH := match H[a]? with
  | some (.inr (d, fs)) => H.set a (.inr (d, fs.set f (.int v)))
  | _ => H
def sA (H : mzH) (a i : Nat) (v : Int32) : mzH := match H[a]? with
  | some (.inl (d, k)) => H.set a (.inl (d, k.set i v))
  | _ => H
def sC (H : mzH) (b a : Nat) : mzH := match H[b]? with
  | some q => H.set a q
  | _ => H
theorem gI_obj {S : List gSp} (hI : gI S H) {a d : Nat} {fs : List gFs} (hs : S[a]? = some (.inr (d, fs))) : ∃ vs, H[a]? = some (.inr (d, vs)) ∧ vs.length = fs.length ∧ ∀ (i : Nat) f, fs[i]? = some f → ∃ v, vs[i]? = some v ∧ gFo f v := by
  obtain ⟨cl, h1, h2⟩ := hI.2 a _ hs
  match cl, h2 with
  | .inr (e, vs), h2 => obtain ⟨rfl, h3, h4⟩ := h2; exact ⟨vs, h1, h3, h4⟩
theorem gI_arr {S : List gSp} (hI : gI S H) {a d n : Nat} {lo hi : Int} (hs : S[a]? = some (.inl (d, n, lo, hi))) : ∃ k, H[a]? = some (.inl (d, k)) ∧ k.length = n ∧ ∀ v ∈ k, lo ≤ v.toInt ∧ v.toInt ≤ hi := by
  obtain ⟨cl, h1, h2⟩ := hI.2 a _ hs
  match cl, h2 with
  | .inl (e, vs), h2 => obtain ⟨rfl, h3, h4⟩ := h2; exact ⟨vs, h1, h3, h4⟩
theorem gI_set {S : List gSp} (hI : gI S H) {a : Nat} {sp : gSp} {cl : mzC} (hs : S[a]? = some sp) (hc : gCo sp cl) : gI S (H.set a cl) := by
  refine ⟨by rw [List.length_set]; exact hI.1, fun b sq hb => ?_⟩
  if e : a = b then
    subst e
    rw [hs] at hb
    have hlt : a < H.length := by rw [hI.1]; exact (List.getElem?_eq_some_iff.mp hs).1
    exact ⟨cl, by rw [List.getElem?_set_self hlt], (Option.some.inj hb) ▸ hc⟩
  else
    obtain ⟨q, h1, h2⟩ := hI.2 b sq hb
    exact ⟨q, by rw [List.getElem?_set_ne e]; exact h1, h2⟩
theorem gI_sF {S : List gSp} (hI : gI S H) {a d f : Nat} {fs : List gFs} {lo hi : Int} {v : Int32} (hs : S[a]? = some (.inr (d, fs))) (hf : fs[f]? = some (.inr (lo, hi))) (hb : lo ≤ v.toInt ∧ v.toInt ≤ hi) : gI S (sF H a f v) := by
  obtain ⟨vs, h1, h2, h3⟩ := gI_obj hI hs
  unfold sF
  rw [h1]
  refine gI_set hI hs ⟨rfl, by rw [List.length_set]; exact h2, fun i g hg => ?_⟩
  if e : f = i then
    subst e
    have hlt : f < vs.length := by rw [h2]; exact (List.getElem?_eq_some_iff.mp hg).1
    rw [hf] at hg
    exact ⟨.int v, by rw [List.getElem?_set_self hlt], (Option.some.inj hg) ▸ ⟨v, rfl, hb.1, hb.2⟩⟩
  else
    obtain ⟨q, h4, h5⟩ := h3 i g hg
    exact ⟨q, by rw [List.getElem?_set_ne e]; exact h4, h5⟩
theorem gI_sA {S : List gSp} (hI : gI S H) {a d n i : Nat} {lo hi : Int} {v : Int32} (hs : S[a]? = some (.inl (d, n, lo, hi))) (hb : lo ≤ v.toInt ∧ v.toInt ≤ hi) : gI S (sA H a i v) := by
  obtain ⟨k, h1, h2, h3⟩ := gI_arr hI hs
  unfold sA
  rw [h1]
  refine gI_set hI hs ⟨rfl, by rw [List.length_set]; exact h2, fun u hu => ?_⟩
  rcases List.mem_or_eq_of_mem_set hu with h | h
  · exact h3 u h
  · exact h ▸ hb
theorem gI_sC {S : List gSp} (hI : gI S H) {a b n : Nat} {lo hi lo1 hi1 : Int} (hs : S[a]? = some (.inl (0, n, lo, hi))) (hs1 : S[b]? = some (.inl (0, n, lo1, hi1))) (hlo : lo ≤ lo1) (hhi : hi1 ≤ hi) : gI S (sC H b a) := by
  obtain ⟨k, h1, h2, h3⟩ := gI_arr hI hs1
  unfold sC
  rw [h1]
  exact gI_set hI hs ⟨rfl, h2, fun u hu => ⟨Int.le_trans hlo (h3 u hu).1, Int.le_trans (h3 u hu).2 hhi⟩⟩
theorem fZ_of {S : List gSp} (hI : gI S H) {a d f : Nat} {fs : List gFs} {lo hi : Int} (hs : S[a]? = some (.inr (d, fs))) (hf : fs[f]? = some (.inr (lo, hi))) : lo ≤ (fZ H a f).toInt ∧ (fZ H a f).toInt ≤ hi := by
  obtain ⟨vs, h1, h2, h3⟩ := gI_obj hI hs
  obtain ⟨v, h4, z, rfl, h5⟩ := h3 f _ hf
  unfold fZ
  rw [h1]
  simp only [h4]
  exact h5
theorem aZ_of {S : List gSp} (hI : gI S H) {a d n i : Nat} {lo hi : Int} (hs : S[a]? = some (.inl (d, n, lo, hi))) (hi2 : i < n) : lo ≤ (aZ H a i).toInt ∧ (aZ H a i).toInt ≤ hi := by
  obtain ⟨k, h1, h2, h3⟩ := gI_arr hI hs
  unfold aZ
  rw [h1]
  simp only
  rw [List.getD_eq_getElem?_getD, List.getElem?_eq_getElem (by omega)]
  exact h3 _ (List.getElem_mem _)
theorem g_gfi {S : List gSp} {a ci f q t : Nat} {fs : List gFs} {lo hi : Int} (hI : gI S H) (hs : S[a]? = some (.inr (ci, fs))) (hf : fs[f]? = some (.inr (lo, hi))) (K : ∀ v : Int32, v = fZ H a f → lo ≤ v.toInt → v.toInt ≤ hi → gG nL bl r l (.int v :: st) H c s Q) : gG nL bl ((pc, .getfield q, ci, f, [t]) :: r) l (.ref a :: st) H c s Q := fun lv hl => by
  have hz := fZ_of hI hs hf
  obtain ⟨vs, h1, h2, h3⟩ := gI_obj hI hs
  obtain ⟨v, h4, z, rfl, h5⟩ := h3 f _ hf
  have e : fZ H a f = z := by unfold fZ; rw [h1]; simp only [h4]
  refine g_stp (fun g => ?_) (K z e.symm (e ▸ hz.1) (e ▸ hz.2) lv hl)
  show mzGf ci f (zEx g nL bl r) lv (.ref a :: st) H c s = _
  unfold mzGf
  simp only [mzNq_eq, h1, Nat.beq_refl, cond_true, h4]
theorem g_gfr {S : List gSp} {a ci f q t b : Nat} {fs : List gFs} (hI : gI S H) (hs : S[a]? = some (.inr (ci, fs))) (hf : fs[f]? = some (.inl b)) (K : gG nL bl r l (.ref b :: st) H c s Q) : gG nL bl ((pc, .getfield q, ci, f, [t]) :: r) l (.ref a :: st) H c s Q := fun lv hl => by
  obtain ⟨vs, h1, h2, h3⟩ := gI_obj hI hs
  obtain ⟨v, h4, rfl⟩ := h3 f _ hf
  refine g_stp (fun g => ?_) (K lv hl)
  show mzGf ci f (zEx g nL bl r) lv (.ref a :: st) H c s = _
  unfold mzGf
  simp only [mzNq_eq, h1, Nat.beq_refl, cond_true, h4]
theorem g_pf {S : List gSp} {a ci f q t : Nat} {fs : List gFs} {lo hi : Int} {v : Int32} (hI : gI S H) (hs : S[a]? = some (.inr (ci, fs))) (hf : fs[f]? = some (.inr (lo, hi))) (ht : mzFit t (.int v) = true) (hb : lo ≤ v.toInt ∧ v.toInt ≤ hi) (K : ∀ H1, H1 = sF H a f v → gI S H1 → gG nL bl r l st H1 c s Q) : gG nL bl ((pc, .putfield q, ci, f, [t]) :: r) l (.int v :: .ref a :: st) H c s Q := fun lv hl => by
  have hz := gI_sF hI hs hf hb
  obtain ⟨vs, h1, h2, h3⟩ := gI_obj hI hs
  have hlt : f < vs.length := by rw [h2]; exact (List.getElem?_eq_some_iff.mp hf).1
  refine g_stp (fun g => ?_) (K _ rfl hz lv hl)
  show mzPf ci f t (zEx g nL bl r) lv (.int v :: .ref a :: st) H c s = _
  unfold mzPf
  simp only [mzNq_eq, h1, Nat.beq_refl, ht, Nat.blt_eq.mpr hlt, Bool.and_self, cond_true, mzSetK_eq]
  unfold sF
  rw [h1]
theorem gz_fit {v : Int32} (h : 0 ≤ v.toInt ∧ v.toInt ≤ 1) : v = 0 ∨ v = 1 := by
  rcases (show v.toInt = 0 ∨ v.toInt = 1 by omega) with e | e
  · exact .inl (Int32.toInt_inj.mp (by rw [e]; rfl))
  · exact .inr (Int32.toInt_inj.mp (by rw [e]; rfl))
theorem g_pfi {S : List gSp} {a ci f q : Nat} {fs : List gFs} {lo hi : Int} {v : Int32} (hI : gI S H) (hs : S[a]? = some (.inr (ci, fs))) (hf : fs[f]? = some (.inr (lo, hi))) (hb : lo ≤ v.toInt ∧ v.toInt ≤ hi) (K : ∀ H1, H1 = sF H a f v → gI S H1 → gG nL bl r l st H1 c s Q) : gG nL bl ((pc, .putfield q, ci, f, [0]) :: r) l (.int v :: .ref a :: st) H c s Q := g_pf hI hs hf rfl hb K
theorem g_pfz {S : List gSp} {a ci f q : Nat} {fs : List gFs} {v : Int32} (hI : gI S H) (hs : S[a]? = some (.inr (ci, fs))) (hf : fs[f]? = some (.inr (0, 1))) (hb : 0 ≤ v.toInt ∧ v.toInt ≤ 1) (K : ∀ H1, H1 = sF H a f v → gI S H1 → gG nL bl r l st H1 c s Q) : gG nL bl ((pc, .putfield q, ci, f, [1]) :: r) l (.int v :: .ref a :: st) H c s Q := g_pf hI hs hf (by rcases gz_fit hb with e | e <;> subst e <;> rfl) hb K
theorem gz_ix {i : Int32} {k : List Int32} {n : Nat} (hn : k.length = n) (h : 0 ≤ i.toInt ∧ i.toInt < n) : mzN i = i.toInt.toNat ∧ mzIx k i = some (k.getD i.toInt.toNat 0) := by
  have h1 := mzN_ge h.1
  have e : i.toNatClampNeg = i.toInt.toNat := rfl
  refine ⟨h1.2.trans e, ?_⟩
  unfold mzIx
  rw [h1.1, cond_true, h1.2, e, mzNq_eq, List.getD_eq_getElem?_getD, List.getElem?_eq_getElem (by omega)]; rfl
theorem g_iaload {S : List gSp} {a d n : Nat} {lo hi : Int} {i : Int32} (hI : gI S H) (hs : S[a]? = some (.inl (d, n, lo, hi))) (hd : Bool.xor false (Nat.beq d 0) = true) (hi2 : 0 ≤ i.toInt ∧ i.toInt < n) (K : ∀ v : Int32, v = aZ H a i.toInt.toNat → lo ≤ v.toInt → v.toInt ≤ hi → gG nL bl r l (.int v :: st) H c s Q) : gG nL bl ((pc, .iaload, x, y, ts) :: r) l (.int i :: .ref a :: st) H c s Q := fun lv hl => by
  have hz := aZ_of hI hs (i := i.toInt.toNat) (by omega)
  obtain ⟨k, h1, h2, h3⟩ := gI_arr hI hs
  have hx := gz_ix h2 hi2
  have e : aZ H a i.toInt.toNat = k.getD i.toInt.toNat 0 := by unfold aZ; rw [h1]
  refine g_stp (fun g => ?_) (K _ rfl hz.1 hz.2 lv hl)
  show mzAl false (zEx g nL bl r) lv (.int i :: .ref a :: st) H c s = _
  unfold mzAl
  simp only [mzNq_eq, h1, hd, cond_true, hx.2, e]
theorem g_baload {S : List gSp} {a d n : Nat} {lo hi : Int} {i : Int32} (hI : gI S H) (hs : S[a]? = some (.inl (d, n, lo, hi))) (hd : Bool.xor true (Nat.beq d 0) = true) (hi2 : 0 ≤ i.toInt ∧ i.toInt < n) (K : ∀ v : Int32, v = aZ H a i.toInt.toNat → lo ≤ v.toInt → v.toInt ≤ hi → gG nL bl r l (.int v :: st) H c s Q) : gG nL bl ((pc, .baload, x, y, ts) :: r) l (.int i :: .ref a :: st) H c s Q := fun lv hl => by
  have hz := aZ_of hI hs (i := i.toInt.toNat) (by omega)
  obtain ⟨k, h1, h2, h3⟩ := gI_arr hI hs
  have hx := gz_ix h2 hi2
  have e : aZ H a i.toInt.toNat = k.getD i.toInt.toNat 0 := by unfold aZ; rw [h1]
  refine g_stp (fun g => ?_) (K _ rfl hz.1 hz.2 lv hl)
  show mzAl true (zEx g nL bl r) lv (.int i :: .ref a :: st) H c s = _
  unfold mzAl
  simp only [mzNq_eq, h1, hd, cond_true, hx.2, e]
theorem gx_iastore {S : List gSp} {a d n : Nat} {lo hi : Int} {i v w : Int32} (hI : gI S H) (hs : S[a]? = some (.inl (d, n, lo, hi))) (hd : Bool.xor false (Nat.beq d 0) = true) (hi2 : 0 ≤ i.toInt ∧ i.toInt < n) (hw : vp_nar (mzTy d) v = w) (hb : lo ≤ w.toInt ∧ w.toInt ≤ hi) (K : ∀ H1, H1 = sA H a i.toInt.toNat w → gI S H1 → gG nL bl r l st H1 c s Q) : gG nL bl ((pc, .iastore, x, y, ts) :: r) l (.int v :: .int i :: .ref a :: st) H c s Q := fun lv hl => by
  have hz := gI_sA hI hs (i := i.toInt.toNat) hb
  obtain ⟨k, h1, h2, h3⟩ := gI_arr hI hs
  have hx := gz_ix h2 hi2
  refine g_stp (fun g => ?_) (K _ rfl hz lv hl)
  show mzAs false (zEx g nL bl r) lv (.int v :: .int i :: .ref a :: st) H c s = _
  unfold mzAs
  simp only [mzNq_eq, h1, hd, cond_true, hx.2, hw, mzSetK_eq, hx.1]
  unfold sA
  rw [h1]
theorem gx_bastore {S : List gSp} {a d n : Nat} {lo hi : Int} {i v w : Int32} (hI : gI S H) (hs : S[a]? = some (.inl (d, n, lo, hi))) (hd : Bool.xor true (Nat.beq d 0) = true) (hi2 : 0 ≤ i.toInt ∧ i.toInt < n) (hw : vp_nar (mzTy d) v = w) (hb : lo ≤ w.toInt ∧ w.toInt ≤ hi) (K : ∀ H1, H1 = sA H a i.toInt.toNat w → gI S H1 → gG nL bl r l st H1 c s Q) : gG nL bl ((pc, .bastore, x, y, ts) :: r) l (.int v :: .int i :: .ref a :: st) H c s Q := fun lv hl => by
  have hz := gI_sA hI hs (i := i.toInt.toNat) hb
  obtain ⟨k, h1, h2, h3⟩ := gI_arr hI hs
  have hx := gz_ix h2 hi2
  refine g_stp (fun g => ?_) (K _ rfl hz lv hl)
  show mzAs true (zEx g nL bl r) lv (.int v :: .int i :: .ref a :: st) H c s = _
  unfold mzAs
  simp only [mzNq_eq, h1, hd, cond_true, hx.2, hw, mzSetK_eq, hx.1]
  unfold sA
  rw [h1]
theorem g_iastore {S : List gSp} {a n : Nat} {lo hi : Int} {i v : Int32} (hI : gI S H) (hs : S[a]? = some (.inl (0, n, lo, hi))) (hi2 : 0 ≤ i.toInt ∧ i.toInt < n) (hb : lo ≤ v.toInt ∧ v.toInt ≤ hi) (K : ∀ H1, H1 = sA H a i.toInt.toNat v → gI S H1 → gG nL bl r l st H1 c s Q) : gG nL bl ((pc, .iastore, x, y, ts) :: r) l (.int v :: .int i :: .ref a :: st) H c s Q := gx_iastore hI hs rfl hi2 rfl hb K
theorem gz_nb {v : Int32} (h : 0 ≤ v.toInt ∧ v.toInt ≤ 1) : vp_nar .boolean v = v := by rcases gz_fit h with e | e <;> subst e <;> rfl
theorem gz_ny (v : Int32) : -128 ≤ (vp_nar .byte v).toInt ∧ (vp_nar .byte v).toInt ≤ 127 := by
  have e : vp_nar .byte v = v.toInt8.toInt32 := rfl
  rw [e, Int8.toInt_toInt32]
  have h1 := Int8.le_toInt v.toInt8
  have h2 := Int8.toInt_lt v.toInt8
  omega
theorem g_zastore {S : List gSp} {a n : Nat} {i v : Int32} (hI : gI S H) (hs : S[a]? = some (.inl (1, n, 0, 1))) (hi2 : 0 ≤ i.toInt ∧ i.toInt < n) (hb : 0 ≤ v.toInt ∧ v.toInt ≤ 1) (K : ∀ H1, H1 = sA H a i.toInt.toNat v → gI S H1 → gG nL bl r l st H1 c s Q) : gG nL bl ((pc, .bastore, x, y, ts) :: r) l (.int v :: .int i :: .ref a :: st) H c s Q := gx_bastore hI hs rfl hi2 (gz_nb hb) hb K
theorem g_yastore {S : List gSp} {a n : Nat} {i v : Int32} (hI : gI S H) (hs : S[a]? = some (.inl (2, n, -128, 127))) (hi2 : 0 ≤ i.toInt ∧ i.toInt < n) (K : ∀ H1, H1 = sA H a i.toInt.toNat (vp_nar .byte v) → gI S H1 → gG nL bl r l st H1 c s Q) : gG nL bl ((pc, .bastore, x, y, ts) :: r) l (.int v :: .int i :: .ref a :: st) H c s Q := gx_bastore hI hs rfl hi2 rfl (gz_ny v) K
theorem g_len {S : List gSp} {a d n : Nat} {lo hi : Int} (hI : gI S H) (hs : S[a]? = some (.inl (d, n, lo, hi))) (hn : (Int32.ofNat n).toInt = n) (K : ∀ v : Int32, v.toInt = n → gG nL bl r l (.int v :: st) H c s Q) : gG nL bl ((pc, .arraylength, x, y, ts) :: r) l (.ref a :: st) H c s Q := fun lv hl => by
  obtain ⟨k, h1, h2, h3⟩ := gI_arr hI hs
  refine g_stp (fun g => ?_) (K (Int32.ofNat n) hn lv hl)
  show mzLen (zEx g nL bl r) lv (.ref a :: st) H c s = _
  unfold mzLen
  simp only [mzNq_eq, h1, h2]
theorem g_acp {S : List gSp} {a b n q : Nat} {lo hi lo1 hi1 : Int} {v dp sp : Int32} (hI : gI S H) (hs : S[a]? = some (.inl (0, n, lo, hi))) (hs1 : S[b]? = some (.inl (0, n, lo1, hi1))) (hlo : lo ≤ lo1) (hhi : hi1 ≤ hi) (hn : v.toInt = n) (hdp : dp.toInt = 0) (hsp : sp.toInt = 0) (hw : Nat.ble (mzWd st) 8 = true) (K : ∀ H1, H1 = sC H b a → gI S H1 → gG nL bl r l st H1 c s Q) : gG nL bl ((pc, .invokestatic q, x, y, [0]) :: r) l (.int v :: .int dp :: .ref a :: .int sp :: .ref b :: st) H c s Q := fun lv hl => by
  have hz := gI_sC hI hs hs1 hlo hhi
  obtain ⟨k, h1, h2, h3⟩ := gI_arr hI hs
  obtain ⟨k1, h4, h5, h6⟩ := gI_arr hI hs1
  refine g_stp (fun g => ?_) (K _ rfl hz lv hl)
  show mzAcp (zEx g nL bl r) lv (.int v :: .int dp :: .ref a :: .int sp :: .ref b :: st) H c s = _
  have e1 : dp.toNatClampNeg = 0 := by show dp.toInt.toNat = 0; omega
  have e2 : sp.toNatClampNeg = 0 := by show sp.toInt.toNat = 0; omega
  have e3 : v.toNatClampNeg = n := by show v.toInt.toNat = n; omega
  have c1 : ¬ sp < 0 := by rw [Int32.lt_iff_toInt_lt, Int32.toInt_zero]; omega
  have c2 : ¬ dp < 0 := by rw [Int32.lt_iff_toInt_lt, Int32.toInt_zero]; omega
  have c3 : ¬ v < 0 := by rw [Int32.lt_iff_toInt_lt, Int32.toInt_zero]; omega
  have e4 : mzCpy k1 k 0 0 n = k1 := by
    unfold mzCpy
    simp only [List.take_zero, List.drop_zero, List.nil_append, Nat.zero_add]
    rw [← h5, List.take_length, h5, ← h2, List.drop_length, List.append_nil]
  unfold mzAcp
  simp only [mzNq_eq, h1, h4]
  rw [decide_eq_false c1, decide_eq_false c2, decide_eq_false c3, e1, e2, e3, Nat.zero_add, h2, h5, Nat.ble_eq.mpr (Nat.le_refl n), hw, mzSetK_eq, e4]
  unfold sC
  rw [h4]; rfl
theorem g_max {a b : Int32} {q : Nat} (hw : Nat.ble (mzWd st) 8 = true) (K : ∀ v : Int32, a.toInt ≤ v.toInt → b.toInt ≤ v.toInt → v.toInt = a.toInt ∨ v.toInt = b.toInt → gG nL bl r l (.int v :: st) H c s Q) : gG nL bl ((pc, .invokestatic q, x, y, [1]) :: r) l (.int b :: .int a :: st) H c s Q := fun lv hl => by
  have h : ∀ v : Int32, v = (if a < b then b else a) → a.toInt ≤ v.toInt ∧ b.toInt ≤ v.toInt ∧ (v.toInt = a.toInt ∨ v.toInt = b.toInt) := by
    intro v hv
    split at hv <;> rename_i h <;> rw [Int32.lt_iff_toInt_lt] at h <;> subst hv <;> omega
  refine g_stp (fun g => ?_) (K _ (h _ rfl).1 (h _ rfl).2.1 (h _ rfl).2.2 lv hl)
  show (bif Nat.ble (mzWd st) 8 then _ else none) = _
  rw [hw]; rfl
theorem g_min {a b : Int32} {q : Nat} (hw : Nat.ble (mzWd st) 8 = true) (K : ∀ v : Int32, v.toInt ≤ a.toInt → v.toInt ≤ b.toInt → v.toInt = a.toInt ∨ v.toInt = b.toInt → gG nL bl r l (.int v :: st) H c s Q) : gG nL bl ((pc, .invokestatic q, x, y, [2]) :: r) l (.int b :: .int a :: st) H c s Q := fun lv hl => by
  have h : ∀ v : Int32, v = (if b < a then b else a) → v.toInt ≤ a.toInt ∧ v.toInt ≤ b.toInt ∧ (v.toInt = a.toInt ∨ v.toInt = b.toInt) := by
    intro v hv
    split at hv <;> rename_i h <;> rw [Int32.lt_iff_toInt_lt] at h <;> subst hv <;> omega
  refine g_stp (fun g => ?_) (K _ (h _ rfl).1 (h _ rfl).2.1 (h _ rfl).2.2 lv hl)
  show (bif Nat.ble (mzWd st) 8 then _ else none) = _
  rw [hw]; rfl
/-- what a call comes to: an int, a long, a reference, nothing -/
def gRi (R : Int32 → mzH → Prop) : Option Value → mzH → Prop := fun q H => ∃ v, q = some (.int v) ∧ R v H
def gRl (R : Int64 → mzH → Prop) : Option Value → mzH → Prop := fun q H => ∃ v, q = some (.long v) ∧ R v H
def gRa (a : Nat) (R : mzH → Prop) : Option Value → mzH → Prop := fun q H => q = some (.ref a) ∧ R H
def gRv (R : mzH → Prop) : Option Value → mzH → Prop := fun q H => q = none ∧ R H
theorem g_iret {v : Int32} (K : Q (some (.int v)) H) : gG nL bl ((pc, .ireturn, 0, y, ts) :: r) l [.int v] H c s Q := fun lv _ => ⟨_, _, K, 1, fun f hf => by obtain ⟨g, rfl⟩ : ∃ g, f = g + 1 := ⟨f - 1, by omega⟩; rfl⟩
theorem g_zret {v : Int32} (h : 0 ≤ v.toInt ∧ v.toInt ≤ 1) (K : Q (some (.int v)) H) : gG nL bl ((pc, .ireturn, 1, y, ts) :: r) l [.int v] H c s Q := fun lv _ => ⟨_, _, K, 1, fun f hf => by
  obtain ⟨g, rfl⟩ : ∃ g, f = g + 1 := ⟨f - 1, by omega⟩
  rcases gz_fit h with e | e <;> subst e <;> rfl⟩
theorem g_lret {v : Int64} (K : Q (some (.long v)) H) : gG nL bl ((pc, .lreturn, x, y, ts) :: r) l [.long v] H c s Q := fun lv _ => ⟨_, _, K, 1, fun f hf => by obtain ⟨g, rfl⟩ : ∃ g, f = g + 1 := ⟨f - 1, by omega⟩; rfl⟩
theorem g_aret {v : Nat} (K : Q (some (.ref v)) H) : gG nL bl ((pc, .areturn, x, y, ts) :: r) l [.ref v] H c s Q := fun lv _ => ⟨_, _, K, 1, fun f hf => by obtain ⟨g, rfl⟩ : ∃ g, f = g + 1 := ⟨f - 1, by omega⟩; rfl⟩
theorem g_ret (K : Q none H) : gG nL bl ((pc, .return_, x, y, ts) :: r) l [] H c s Q := fun lv _ => ⟨_, _, K, 1, fun f hf => by obtain ⟨g, rfl⟩ : ∃ g, f = g + 1 := ⟨f - 1, by omega⟩; rfl⟩
theorem gz_inv {g : List Value → mzH → Bool} {na : Nat} {st : List Value} {as st' : List Value} {P : Option Value → mzH → Prop} {lv : mzL} (hg : g st H = true) (hs : (Nat.ble na st.length && (Nat.ble (mzWd (st.drop na)) 8 && (Nat.ble 0 c && (Nat.ble 0 s && Nat.ble (mzWd (st.take na)) (zN x))))) = true) (ea : (st.take na).reverse = as) (ed : st.drop na = st') (hM : gCall x as H P) (K : ∀ o H1, P o H1 → gGo nL bl r lv (o.toList ++ st') H1 c s Q) : ∃ o H', Q o H' ∧ ∃ f0, ∀ f, f0 ≤ f → mzInv g (zN x) (zEx f (zN x) (zB x) (mzBlk (zB x) 0)) na 0 0 (zEx f nL bl r) lv st H c s = some (o, H') := by
  obtain ⟨o1, H1, hP, f1, hf1⟩ := hM
  obtain ⟨o2, H2, hQ, f2, hf2⟩ := K o1 H1 hP
  refine ⟨o2, H2, hQ, f1 + f2, fun f hf => ?_⟩
  unfold mzInv
  rw [hg, hs, ea, ed]
  simp only [Bool.and_self, cond_true, hf1 f (by omega)]
  exact hf2 f (by omega)
theorem gz_up {i : Instr} {lv : mzL} (h : ∃ o H', Q o H' ∧ ∃ f0, ∀ f, f0 ≤ f → mzStp (zEx f) nL bl ((pc, i, x, y, ts) :: r) lv st H c s = some (o, H')) : gGo nL bl ((pc, i, x, y, ts) :: r) lv st H c s Q := by
  obtain ⟨o, H', hQ, f0, hf⟩ := h
  refine ⟨o, H', hQ, f0 + 1, fun f hle => ?_⟩
  obtain ⟨g, rfl⟩ : ∃ g, f = g + 1 := ⟨f - 1, by omega⟩
  exact hf g (by omega)
theorem gz_rcv {S : List gSp} {a na : Nat} {fs : List gFs} (hI : gI S H) (hs : S[a]? = some (.inr (y, fs))) (ha : st[na - 1]? = some (.ref a)) : mzRcv na y st H = true := by
  obtain ⟨vs, h1, h2, h3⟩ := gI_obj hI hs
  unfold mzRcv
  simp only [mzNq_eq, ha, h1, Nat.beq_refl]
theorem g_invvi {S : List gSp} {a na q : Nat} {fs : List gFs} {as st' : List Value} {R : Int32 → mzH → Prop} (hI : gI S H) (hs : S[a]? = some (.inr (y, fs))) (ha : st[na - 1]? = some (.ref a)) (hw : (Nat.ble na st.length && (Nat.ble (mzWd (st.drop na)) 8 && (Nat.ble 0 c && (Nat.ble 0 s && Nat.ble (mzWd (st.take na)) (zN x))))) = true) (ea : (st.take na).reverse = as) (ed : st.drop na = st') (hM : gCall x as H (gRi R)) (K : ∀ (v : Int32) H1, R v H1 → gG nL bl r l (.int v :: st') H1 c s Q) : gG nL bl ((pc, .invokevirtual q, x, y, [na, 0, 0]) :: r) l st H c s Q := fun lv hl => gz_up (gz_inv (g := mzRcv na y) (gz_rcv hI hs ha) hw ea ed hM (fun o H1 hP => by obtain ⟨v, rfl, hR⟩ := hP; exact K v H1 hR lv hl))
theorem g_invti {na q : Nat} {as st' : List Value} {R : Int32 → mzH → Prop} (hw : (Nat.ble na st.length && (Nat.ble (mzWd (st.drop na)) 8 && (Nat.ble 0 c && (Nat.ble 0 s && Nat.ble (mzWd (st.take na)) (zN x))))) = true) (ea : (st.take na).reverse = as) (ed : st.drop na = st') (hM : gCall x as H (gRi R)) (K : ∀ (v : Int32) H1, R v H1 → gG nL bl r l (.int v :: st') H1 c s Q) : gG nL bl ((pc, .invokestatic q, x, y, [na, 0, 0]) :: r) l st H c s Q := fun lv hl => gz_up (gz_inv (g := fun _ _ => true) rfl hw ea ed hM (fun o H1 hP => by obtain ⟨v, rfl, hR⟩ := hP; exact K v H1 hR lv hl))
theorem g_invvl {S : List gSp} {a na q : Nat} {fs : List gFs} {as st' : List Value} {R : Int64 → mzH → Prop} (hI : gI S H) (hs : S[a]? = some (.inr (y, fs))) (ha : st[na - 1]? = some (.ref a)) (hw : (Nat.ble na st.length && (Nat.ble (mzWd (st.drop na)) 8 && (Nat.ble 0 c && (Nat.ble 0 s && Nat.ble (mzWd (st.take na)) (zN x))))) = true) (ea : (st.take na).reverse = as) (ed : st.drop na = st') (hM : gCall x as H (gRl R)) (K : ∀ (v : Int64) H1, R v H1 → gG nL bl r l (.long v :: st') H1 c s Q) : gG nL bl ((pc, .invokevirtual q, x, y, [na, 0, 0]) :: r) l st H c s Q := fun lv hl => gz_up (gz_inv (g := mzRcv na y) (gz_rcv hI hs ha) hw ea ed hM (fun o H1 hP => by obtain ⟨v, rfl, hR⟩ := hP; exact K v H1 hR lv hl))
theorem g_invva {S : List gSp} {a na q : Nat} {fs : List gFs} {as st' : List Value} {R : mzH → Prop} {b : Nat} (hI : gI S H) (hs : S[a]? = some (.inr (y, fs))) (ha : st[na - 1]? = some (.ref a)) (hw : (Nat.ble na st.length && (Nat.ble (mzWd (st.drop na)) 8 && (Nat.ble 0 c && (Nat.ble 0 s && Nat.ble (mzWd (st.take na)) (zN x))))) = true) (ea : (st.take na).reverse = as) (ed : st.drop na = st') (hM : gCall x as H (gRa b R)) (K : ∀ H1, R H1 → gG nL bl r l (.ref b :: st') H1 c s Q) : gG nL bl ((pc, .invokevirtual q, x, y, [na, 0, 0]) :: r) l st H c s Q := fun lv hl => gz_up (gz_inv (g := mzRcv na y) (gz_rcv hI hs ha) hw ea ed hM (fun o H1 hP => by obtain ⟨rfl, hR⟩ := hP; exact K H1 hR lv hl))
theorem g_invvv {S : List gSp} {a na q : Nat} {fs : List gFs} {as st' : List Value} {R : mzH → Prop} (hI : gI S H) (hs : S[a]? = some (.inr (y, fs))) (ha : st[na - 1]? = some (.ref a)) (hw : (Nat.ble na st.length && (Nat.ble (mzWd (st.drop na)) 8 && (Nat.ble 0 c && (Nat.ble 0 s && Nat.ble (mzWd (st.take na)) (zN x))))) = true) (ea : (st.take na).reverse = as) (ed : st.drop na = st') (hM : gCall x as H (gRv R)) (K : ∀ H1, R H1 → gG nL bl r l st' H1 c s Q) : gG nL bl ((pc, .invokevirtual q, x, y, [na, 0, 0]) :: r) l st H c s Q := fun lv hl => gz_up (gz_inv (g := mzRcv na y) (gz_rcv hI hs ha) hw ea ed hM (fun o H1 hP => by obtain ⟨rfl, hR⟩ := hP; exact K H1 hR lv hl))
theorem g_invtv {na q : Nat} {as st' : List Value} {R : mzH → Prop} (hw : (Nat.ble na st.length && (Nat.ble (mzWd (st.drop na)) 8 && (Nat.ble 0 c && (Nat.ble 0 s && Nat.ble (mzWd (st.take na)) (zN x))))) = true) (ea : (st.take na).reverse = as) (ed : st.drop na = st') (hM : gCall x as H (gRv R)) (K : ∀ H1, R H1 → gG nL bl r l st' H1 c s Q) : gG nL bl ((pc, .invokestatic q, x, y, [na, 0, 0]) :: r) l st H c s Q := fun lv hl => gz_up (gz_inv (g := fun _ _ => true) rfl hw ea ed hM (fun o H1 hP => by obtain ⟨rfl, hR⟩ := hP; exact K H1 hR lv hl))
theorem g_imulk {a b : Int32} {n : Int} (hb : b.toInt = n) (h : -2147483648 ≤ a.toInt * n ∧ a.toInt * n ≤ 2147483647) (K : ∀ v : Int32, v.toInt = a.toInt * n → gG nL bl r l (.int v :: st) H c s Q) : gG nL bl ((pc, .imul, x, y, ts) :: r) l (.int b :: .int a :: st) H c s Q := g_imul (by rw [hb]; exact h) (fun v e => K v (by rw [e, hb]))
theorem g_imulk' {a b : Int32} {n : Int} (hb : a.toInt = n) (h : -2147483648 ≤ n * b.toInt ∧ n * b.toInt ≤ 2147483647) (K : ∀ v : Int32, v.toInt = n * b.toInt → gG nL bl r l (.int v :: st) H c s Q) : gG nL bl ((pc, .imul, x, y, ts) :: r) l (.int b :: .int a :: st) H c s Q := g_imul (by rw [hb]; exact h) (fun v e => K v (by rw [e, hb]))
theorem g_gfk {S : List gSp} {a ci f q t : Nat} {fs : List gFs} {lo hi : Int} {v : Int32} (hI : gI S H) (hs : S[a]? = some (.inr (ci, fs))) (hf : fs[f]? = some (.inr (lo, hi))) (e : v = fZ H a f) (K : gG nL bl r l (.int v :: st) H c s Q) : gG nL bl ((pc, .getfield q, ci, f, [t]) :: r) l (.ref a :: st) H c s Q := g_gfi hI hs hf (fun w ew _ _ => by rw [show w = v from ew.trans e.symm]; exact K)
theorem g_ialoadk {S : List gSp} {a d n : Nat} {lo hi : Int} {i v : Int32} (hI : gI S H) (hs : S[a]? = some (.inl (d, n, lo, hi))) (hd : Bool.xor false (Nat.beq d 0) = true) (hi2 : 0 ≤ i.toInt ∧ i.toInt < n) (e : v = aZ H a i.toInt.toNat) (K : gG nL bl r l (.int v :: st) H c s Q) : gG nL bl ((pc, .iaload, x, y, ts) :: r) l (.int i :: .ref a :: st) H c s Q := g_iaload hI hs hd hi2 (fun w ew _ _ => by rw [show w = v from ew.trans e.symm]; exact K)
theorem g_baloadk {S : List gSp} {a d n : Nat} {lo hi : Int} {i v : Int32} (hI : gI S H) (hs : S[a]? = some (.inl (d, n, lo, hi))) (hd : Bool.xor true (Nat.beq d 0) = true) (hi2 : 0 ≤ i.toInt ∧ i.toInt < n) (e : v = aZ H a i.toInt.toNat) (K : gG nL bl r l (.int v :: st) H c s Q) : gG nL bl ((pc, .baload, x, y, ts) :: r) l (.int i :: .ref a :: st) H c s Q := g_baload hI hs hd hi2 (fun w ew _ _ => by rw [show w = v from ew.trans e.symm]; exact K)
theorem gz_sF {a f : Nat} {v : Int32} (b : Nat) : (sF H a f v)[b]? = H[b]? ∨ (a = b ∧ ∃ d fs, H[b]? = some (.inr (d, fs)) ∧ (sF H a f v)[b]? = some (.inr (d, fs.set f (.int v)))) := by
  unfold sF
  split
  · rename_i d fs h
    if e : a = b then
      subst e
      exact .inr ⟨rfl, d, fs, h, List.getElem?_set_self (List.getElem?_eq_some_iff.mp h).1⟩
    else exact .inl (List.getElem?_set_ne e)
  · exact .inl rfl
theorem gz_sA {a i : Nat} {v : Int32} (b : Nat) : (sA H a i v)[b]? = H[b]? ∨ (a = b ∧ ∃ d k, H[b]? = some (.inl (d, k)) ∧ (sA H a i v)[b]? = some (.inl (d, k.set i v))) := by
  unfold sA
  split
  · rename_i d fs h
    if e : a = b then
      subst e
      exact .inr ⟨rfl, d, fs, h, List.getElem?_set_self (List.getElem?_eq_some_iff.mp h).1⟩
    else exact .inl (List.getElem?_set_ne e)
  · exact .inl rfl
theorem fZ_cg {H H1 : mzH} {b g : Nat} (h : H1[b]? = H[b]?) : fZ H1 b g = fZ H b g := by unfold fZ; rw [h]
theorem aZ_cg {H H1 : mzH} {b g : Nat} (h : H1[b]? = H[b]?) : aZ H1 b g = aZ H b g := by unfold aZ; rw [h]
theorem fZ_sF_nc {a f b g : Nat} {v : Int32} (h : a ≠ b) : fZ (sF H a f v) b g = fZ H b g := by
  rcases gz_sF (H := H) (a := a) (f := f) (v := v) b with e | ⟨e, _⟩
  · exact fZ_cg e
  · exact absurd e h
theorem fZ_sF_ne {a f g : Nat} {v : Int32} (h : f ≠ g) : fZ (sF H a f v) a g = fZ H a g := by
  rcases gz_sF (H := H) (a := a) (f := f) (v := v) a with e | ⟨_, d, fs, h1, h2⟩
  · exact fZ_cg e
  · unfold fZ; rw [h1, h2]; simp only [List.getElem?_set_ne h]
theorem fZ_sF_eq {S : List gSp} {a d f : Nat} {fs : List gFs} {lo hi : Int} {v : Int32} (hI : gI S H) (hs : S[a]? = some (.inr (d, fs))) (hf : fs[f]? = some (.inr (lo, hi))) : fZ (sF H a f v) a f = v := by
  obtain ⟨vs, h1, h2, h3⟩ := gI_obj hI hs
  have hlt : f < vs.length := by rw [h2]; exact (List.getElem?_eq_some_iff.mp hf).1
  have hla : a < H.length := (List.getElem?_eq_some_iff.mp h1).1
  unfold fZ sF
  rw [h1]
  simp only [List.getElem?_set_self hla, List.getElem?_set_self hlt]
theorem aZ_sF {a f b g : Nat} {v : Int32} : aZ (sF H a f v) b g = aZ H b g := by
  rcases gz_sF (H := H) (a := a) (f := f) (v := v) b with e | ⟨_, d, fs, h1, h2⟩
  · exact aZ_cg e
  · unfold aZ; rw [h1, h2]
theorem fZ_sA {a f b g : Nat} {v : Int32} : fZ (sA H a f v) b g = fZ H b g := by
  rcases gz_sA (H := H) (a := a) (i := f) (v := v) b with e | ⟨_, d, fs, h1, h2⟩
  · exact fZ_cg e
  · unfold fZ; rw [h1, h2]
theorem aZ_sA_nc {a i b g : Nat} {v : Int32} (h : a ≠ b) : aZ (sA H a i v) b g = aZ H b g := by
  rcases gz_sA (H := H) (a := a) (i := i) (v := v) b with e | ⟨e, _⟩
  · exact aZ_cg e
  · exact absurd e h
theorem aZ_sA_ne {a i g : Nat} {v : Int32} (h : i ≠ g) : aZ (sA H a i v) a g = aZ H a g := by
  rcases gz_sA (H := H) (a := a) (i := i) (v := v) a with e | ⟨_, d, k, h1, h2⟩
  · exact aZ_cg e
  · unfold aZ; rw [h1, h2]; simp only [List.getD_eq_getElem?_getD, List.getElem?_set_ne h]
theorem aZ_sA_eq {S : List gSp} {a d n i : Nat} {lo hi : Int} {v : Int32} (hI : gI S H) (hs : S[a]? = some (.inl (d, n, lo, hi))) (hi2 : i < n) : aZ (sA H a i v) a i = v := by
  obtain ⟨k, h1, h2, h3⟩ := gI_arr hI hs
  have hla : a < H.length := (List.getElem?_eq_some_iff.mp h1).1
  unfold aZ sA
  rw [h1]
  simp only [List.getElem?_set_self hla, List.getD_eq_getElem?_getD, List.getElem?_set_self (show i < k.length by omega), Option.getD_some]
theorem sC_nc {a b y : Nat} (h : a ≠ y) : (sC H b a)[y]? = H[y]? := by
  unfold sC
  split
  · exact List.getElem?_set_ne h
  · rfl
theorem sC_eq {S : List gSp} {a b d n d1 n1 : Nat} {lo hi lo1 hi1 : Int} (hI : gI S H) (hs : S[a]? = some (.inl (d, n, lo, hi))) (hs1 : S[b]? = some (.inl (d1, n1, lo1, hi1))) : (sC H b a)[a]? = H[b]? := by
  obtain ⟨k, h1, h2, h3⟩ := gI_arr hI hs
  obtain ⟨k1, h4, h5, h6⟩ := gI_arr hI hs1
  have hla : a < H.length := (List.getElem?_eq_some_iff.mp h1).1
  unfold sC
  rw [h4]
  exact List.getElem?_set_self hla
theorem aZ_sC_nc {a b y g : Nat} (h : a ≠ y) : aZ (sC H b a) y g = aZ H y g := aZ_cg (sC_nc h)
theorem aZ_sC_eq {S : List gSp} {a b d n d1 n1 g : Nat} {lo hi lo1 hi1 : Int} (hI : gI S H) (hs : S[a]? = some (.inl (d, n, lo, hi))) (hs1 : S[b]? = some (.inl (d1, n1, lo1, hi1))) : aZ (sC H b a) a g = aZ H b g := by unfold aZ; rw [sC_eq hI hs hs1]
theorem fZ_sC {S : List gSp} {a b d n d1 n1 y g : Nat} {lo hi lo1 hi1 : Int} (hI : gI S H) (hs : S[a]? = some (.inl (d, n, lo, hi))) (hs1 : S[b]? = some (.inl (d1, n1, lo1, hi1))) : fZ (sC H b a) y g = fZ H y g := by
  if e : a = y then
    subst e
    obtain ⟨k, h1, h2, h3⟩ := gI_arr hI hs
    obtain ⟨k1, h4, h5, h6⟩ := gI_arr hI hs1
    unfold fZ
    rw [sC_eq hI hs hs1, h1, h4]
  else exact fZ_cg (sC_nc e)
end
