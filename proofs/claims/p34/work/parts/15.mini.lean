/-- a place of a list, by the recursor itself: the kernel walks it in few steps -/
noncomputable def mzNq {α : Type} (l : List α) : Nat → Option α := List.rec (motive := fun _ => Nat → Option α) (fun _ => none) (fun a _ ih n => Nat.rec (motive := fun _ => Option α) (some a) (fun m _ => ih m) n) l
theorem mzNq_eq {α : Type} : ∀ (l : List α) (n : Nat), mzNq l n = l[n]?
  | [], n => by rw [List.getElem?_nil]; rfl
  | a :: l, 0 => rfl
  | a :: l, n + 1 => by rw [List.getElem?_cons_succ, ← mzNq_eq l n]; rfl
def mzSet {α : Type} : List α → Nat → α → List α
  | [], _, _ => []
  | _ :: l, 0, b => b :: l
  | a :: l, n + 1, b => a :: mzSet l n b
theorem mzSet_eq {α : Type} : ∀ (l : List α) (n : Nat) (b : α), mzSet l n b = l.set n b
  | [], n, b => by simp [mzSet]
  | a :: l, 0, b => by simp [mzSet]
  | a :: l, n + 1, b => by simp [mzSet, mzSet_eq l n b]
/-- a place set, the list laid out anew before the way on -/
noncomputable def mzSetK {α β : Type} (l : List α) (n : Nat) (b : α) (k : List α → β) : β := List.rec (motive := fun _ => Nat → (List α → β) → β) (fun _ k => k []) (fun a l ih n k => Nat.rec (motive := fun _ => β) (k (b :: l)) (fun m _ => ih m (fun x => k (a :: x))) n) l n k
theorem mzSetK_eq {α β : Type} : ∀ (l : List α) (n : Nat) (b : α) (k : List α → β), mzSetK l n b k = k (l.set n b)
  | [], n, b, k => rfl
  | a :: l, 0, b, k => rfl
  | a :: l, n + 1, b, k => mzSetK_eq l n b (fun x => k (a :: x))
noncomputable def mzGet (i : Nat) (l : mzL) : Option Value := List.rec (motive := fun _ => Option Value) none (fun q _ ih => Bool.rec (motive := fun _ => Option Value) ih (some q.2) (Nat.beq q.1 i)) l
theorem mzGet_cons (i k : Nat) (v : Value) (r : mzL) : mzGet i ((k, v) :: r) = bif Nat.beq k i then some v else mzGet i r := by
  show Bool.rec (motive := fun _ => Option Value) (mzGet i r) (some v) (Nat.beq k i) = _
  cases Nat.beq k i <;> rfl
theorem mzGet_mem : ∀ {i : Nat} {l : mzL} {v : Value}, mzGet i l = some v → (i, v) ∈ l
  | i, [], v, h => by cases h
  | i, (k, w) :: r, v, h => by
    rw [mzGet_cons] at h
    cases e : Nat.beq k i with
    | true =>
      rw [e] at h
      have hk : k = i := Nat.eq_of_beq_eq_true e
      simp only [cond_true, Option.some.injEq] at h
      subst hk; subst h
      exact List.mem_cons_self
    | false =>
      rw [e] at h
      simp only [cond_false] at h
      exact List.mem_cons_of_mem _ (mzGet_mem h)
noncomputable def mzFl1 (i : Nat) (l : mzL) : mzL := List.rec (motive := fun _ => mzL) [] (fun q _ ih => Bool.rec (motive := fun _ => mzL) (q :: ih) ih (Nat.beq q.1 i || (Nat.beq (q.1 + 1) i && Nat.beq q.2.category 2))) l
theorem mzFl1_cons (i k : Nat) (v : Value) (r : mzL) : mzFl1 i ((k, v) :: r) = bif Nat.beq k i || (Nat.beq (k + 1) i && Nat.beq v.category 2) then mzFl1 i r else (k, v) :: mzFl1 i r := by
  show Bool.rec (motive := fun _ => mzL) ((k, v) :: mzFl1 i r) (mzFl1 i r) (Nat.beq k i || (Nat.beq (k + 1) i && Nat.beq v.category 2)) = _
  cases (Nat.beq k i || (Nat.beq (k + 1) i && Nat.beq v.category 2)) <;> rfl
def mzFl2 (i : Nat) : mzL → mzL
  | [] => []
  | (k, v) :: r => bif Nat.beq k i || (Nat.beq k (i + 1) || (Nat.beq (k + 1) i && Nat.beq v.category 2)) then mzFl2 i r else (k, v) :: mzFl2 i r
theorem z_beq (a b : Nat) : Nat.beq a b = (a == b) := by rw [Bool.eq_iff_iff, beq_iff_eq]; exact ⟨Nat.eq_of_beq_eq_true, fun h => h ▸ Nat.beq_refl a⟩
theorem mzFl1_eq (i : Nat) : ∀ l : mzL, mzFl1 i l = l.filter (fun q => !(q.1 == i) && !(q.1 + 1 == i && q.2.category == 2))
  | [] => rfl
  | (k, v) :: r => by
    rw [mzFl1_cons, List.filter_cons, mzFl1_eq i r, z_beq, z_beq, z_beq]
    cases (k == i) <;> cases (k + 1 == i) <;> cases (v.category == 2) <;> rfl
theorem mzFl2_eq (i : Nat) : ∀ l : mzL, mzFl2 i l = l.filter (fun q => !(q.1 == i) && (!(q.1 == i + 1) && !(q.1 + 1 == i && q.2.category == 2)))
  | [] => rfl
  | (k, v) :: r => by
    unfold mzFl2
    rw [List.filter_cons, mzFl2_eq i r, z_beq, z_beq, z_beq, z_beq]
    cases (k == i) <;> cases (k == i + 1) <;> cases (k + 1 == i) <;> cases (v.category == 2) <;> rfl
noncomputable def mzSt1 (i : Nat) (v : Value) (lv : mzL) : mzL := (i, v) :: mzFl1 i lv
def mzSt2 (i : Nat) (v : Value) (lv : mzL) : mzL := (i, v) :: mzFl2 i lv
/-- an int's place on the line from 0 on: comparisons by numbers -/
def mzN (a : Int32) : Nat := a.toUInt32.toBitVec.toNat
def mzZ (a : Int32) : Nat := Nat.mod (Nat.add (mzN a) 2147483648) 4294967296
theorem mzZ_eq (a : Int32) : (mzZ a : Int) = a.toInt + 2147483648 := by
  have h : mzN a = a.toBitVec.toNat := rfl
  have h2 : a.toInt = a.toBitVec.toInt := rfl
  have h3 := a.toBitVec.isLt
  have e : mzZ a = (mzN a + 2147483648) % 4294967296 := rfl
  rw [e, h, h2, BitVec.toInt_eq_toNat_cond]
  split <;> omega
def mzLt (a b : Int32) : Bool := Nat.blt (mzZ a) (mzZ b)
def mzEq (a b : Int32) : Bool := Nat.beq (mzZ a) (mzZ b)
theorem mzLt_eq (a b : Int32) : mzLt a b = decide (a < b) := by
  have h1 := mzZ_eq a
  have h2 := mzZ_eq b
  rw [Bool.eq_iff_iff]
  unfold mzLt
  rw [Nat.blt_eq, decide_eq_true_eq, Int32.lt_iff_toInt_lt]
  omega
theorem mzEq_eq (a b : Int32) : mzEq a b = decide (a = b) := by
  have h1 := mzZ_eq a
  have h2 := mzZ_eq b
  rw [Bool.eq_iff_iff]
  unfold mzEq
  rw [decide_eq_true_eq, ← Int32.toInt_inj]
  exact ⟨fun h => by have := Nat.eq_of_beq_eq_true h; omega, fun h => by rw [show mzZ a = mzZ b by omega]; exact Nat.beq_refl _⟩
def mzWd (st : List Value) : Nat := (st.map fun v => v.category).sum
def mzNo : mzK := fun _ _ _ _ _ => none
def mzPush (v : Value) (k : mzK) : mzK := fun lv st H c s => k lv (v :: st) H c s
noncomputable def mzIld (i : Nat) (k : mzK) : mzK := fun lv st H c s => match mzGet i lv with
  | some (.int v) => k lv (.int v :: st) H c s
  | _ => none
noncomputable def mzLld (i : Nat) (k : mzK) : mzK := fun lv st H c s => match mzGet i lv with
  | some (.long v) => k lv (.long v :: st) H c s
  | _ => none
noncomputable def mzAld (i : Nat) (k : mzK) : mzK := fun lv st H c s => match mzGet i lv with
  | some (.ref v) => k lv (.ref v :: st) H c s
  | _ => none
noncomputable def mzIst (n i : Nat) (k : mzK) : mzK := fun lv st H c s => match st with
  | .int v :: r => bif Nat.blt i n then k (mzSt1 i (.int v) lv) r H c s else none
  | _ => none
noncomputable def mzAst (n i : Nat) (k : mzK) : mzK := fun lv st H c s => match st with
  | .ref v :: r => bif Nat.blt i n then k (mzSt1 i (.ref v) lv) r H c s else none
  | _ => none
noncomputable def mzLst (n i : Nat) (k : mzK) : mzK := fun lv st H c s => match st with
  | .long v :: r => bif Nat.blt (i + 1) n then k (mzSt2 i (.long v) lv) r H c s else none
  | _ => none
noncomputable def mzInc (n i : Nat) (d : Int) (k : mzK) : mzK := fun lv st H c s => match mzGet i lv with
  | some (.int v) => bif Nat.blt i n then k (mzSt1 i (.int (v + Int32.ofInt d)) lv) st H c s else none
  | _ => none
def mzI2 (g : Int32 → Int32 → Int32) (k : mzK) : mzK := fun lv st H c s => match st with
  | .int b :: .int a :: r => k lv (.int (g a b) :: r) H c s
  | _ => none
def mzRem (k : mzK) : mzK := fun lv st H c s => match st with
  | .int b :: .int a :: r => bif decide (b = 0) then none else k lv (.int (a - a / b * b) :: r) H c s
  | _ => none
def mzL2 (g : Int64 → Int64 → Int64) (k : mzK) : mzK := fun lv st H c s => match st with
  | .long b :: .long a :: r => k lv (.long (g a b) :: r) H c s
  | _ => none
def mzLsh (g : Int64 → Int32 → Int64) (k : mzK) : mzK := fun lv st H c s => match st with
  | .int b :: .long a :: r => k lv (.long (g a b) :: r) H c s
  | _ => none
def mzLcmp (k : mzK) : mzK := fun lv st H c s => match st with
  | .long b :: .long a :: r => k lv (.int (lg_cmp a b) :: r) H c s
  | _ => none
def mzI1 (g : Int32 → Value) (k : mzK) : mzK := fun lv st H c s => match st with
  | .int a :: r => k lv (g a :: r) H c s
  | _ => none
def mzL1 (g : Int64 → Value) (k : mzK) : mzK := fun lv st H c s => match st with
  | .long a :: r => k lv (g a :: r) H c s
  | _ => none
def mzDup (k : mzK) : mzK := fun lv st H c s => match st with
  | a :: r => bif Nat.beq a.category 1 then k lv (a :: a :: r) H c s else none
  | _ => none
def mzDup2 (k : mzK) : mzK := fun lv st H c s => match st with
  | a :: b :: r => bif Nat.beq a.category 1 && Nat.beq b.category 1 then k lv (a :: b :: a :: b :: r) H c s else none
  | _ => none
def mzPop (k : mzK) : mzK := fun lv st H c s => match st with
  | a :: r => bif Nat.beq a.category 1 then k lv r H c s else none
  | _ => none
def mzCnd (q : ClassFile.Cond) (a b : Int32) : Bool := match q with
  | .eq => mzEq a b
  | .ne => !mzEq a b
  | .lt => mzLt a b
  | .ge => !mzLt a b
  | .gt => mzLt b a
  | .le => !mzLt b a
theorem mzCnd_eq (q : ClassFile.Cond) (a b : Int32) : mzCnd q a b = (match q with
  | .eq => decide (a = b)
  | .ne => !decide (a = b)
  | .lt => decide (a < b)
  | .ge => decide (b ≤ a)
  | .gt => decide (b < a)
  | .le => decide (a ≤ b)) := by
  cases q
  · exact mzEq_eq a b
  · show (!mzEq a b) = _; rw [mzEq_eq]
  · exact mzLt_eq a b
  · show (!mzLt a b) = _; rw [mzLt_eq, ← decide_not]; exact decide_eq_decide.mpr Int32.not_lt
  · exact mzLt_eq b a
  · show (!mzLt b a) = _; rw [mzLt_eq, ← decide_not]; exact decide_eq_decide.mpr Int32.not_lt
def mzIf (q : ClassFile.Cond) (kt kf : mzK) : mzK := fun lv st H c s => match st with
  | .int a :: r => bif mzCnd q a 0 then kt lv r H c s else kf lv r H c s
  | _ => none
def mzIf2 (q : ClassFile.Cond) (kt kf : mzK) : mzK := fun lv st H c s => match st with
  | .int b :: .int a :: r => bif mzCnd q a b then kt lv r H c s else kf lv r H c s
  | _ => none
noncomputable def mzSw (lo hi : Int) (ts : List Nat) (kd : mzK) (kt : Nat → mzK) : mzK := fun lv st H c s => match st with
  | .int a :: r => bif decide (a.toInt < lo) || decide (hi < a.toInt) then kd lv r H c s else match mzNq ts (a.toInt - lo).toNat with
    | some b => kt b lv r H c s
    | none => none
  | _ => none
noncomputable def mzGf (ci f : Nat) (k : mzK) : mzK := fun lv st H c s => match st with
  | .ref a :: r => (match mzNq H a with
    | some (.inr (d, fs)) => bif Nat.beq d ci then (match mzNq fs f with
      | some v => k lv (v :: r) H c s
      | none => none) else none
    | _ => none)
  | _ => none
/-- may the value stand in a field: 0 an int, 1 a boolean, else a reference -/
def mzFit (t : Nat) (v : Value) : Bool := match t, v with
  | 0, .int _ => true
  | 1, .int b => decide (b = 0) || decide (b = 1)
  | 2, .ref _ => true
  | _, _ => false
noncomputable def mzPf (ci f t : Nat) (k : mzK) : mzK := fun lv st H c s => match st with
  | v :: .ref a :: r => (match mzNq H a with
    | some (.inr (d, fs)) => bif Nat.beq d ci && (Nat.blt f fs.length && mzFit t v) then mzSetK fs f v (fun gs => mzSetK H a (.inr (d, gs)) (fun G => k lv r G c s)) else none
    | _ => none)
  | _ => none
noncomputable def mzIx (l : List Int32) (i : Int32) : Option Int32 := bif Nat.blt (mzN i) 2147483648 then mzNq l (mzN i) else none
theorem mzN_eq {i : Int32} (h : Nat.blt (mzN i) 2147483648 = true) : ¬ i < 0 ∧ mzN i = i.toNatClampNeg := by
  have h1 := Nat.blt_eq.mp h
  have h2 := mzZ_eq i
  have e : mzZ i = (mzN i + 2147483648) % 4294967296 := rfl
  have e2 : i.toNatClampNeg = i.toInt.toNat := rfl
  rw [Int32.lt_iff_toInt_lt, Int32.toInt_zero, e2]
  omega
theorem mzN_ge {i : Int32} (h : 0 ≤ i.toInt) : Nat.blt (mzN i) 2147483648 = true ∧ mzN i = i.toNatClampNeg := by
  have h2 := mzZ_eq i
  have h3 : mzN i < 4294967296 := i.toUInt32.toBitVec.isLt
  have e : mzZ i = (mzN i + 2147483648) % 4294967296 := rfl
  have e2 : i.toNatClampNeg = i.toInt.toNat := rfl
  have h4 := Int32.toInt_lt i
  rw [Nat.blt_eq, e2]
  omega
noncomputable def mzAl (b : Bool) (k : mzK) : mzK := fun lv st H c s => match st with
  | .int i :: .ref a :: r => (match mzNq H a with
    | some (.inl (d, l)) => bif Bool.xor b (Nat.beq d 0) then (match mzIx l i with
      | some v => k lv (.int v :: r) H c s
      | none => none) else none
    | _ => none)
  | _ => none
def mzTy (d : Nat) : FieldType := match d with
  | 0 => .int
  | 1 => .boolean
  | _ => .byte
noncomputable def mzAs (b : Bool) (k : mzK) : mzK := fun lv st H c s => match st with
  | .int x :: .int i :: .ref a :: r => (match mzNq H a with
    | some (.inl (d, l)) => bif Bool.xor b (Nat.beq d 0) then (match mzIx l i with
      | some _ => mzSetK l (mzN i) (vp_nar (mzTy d) x) (fun m => mzSetK H a (.inl (d, m)) (fun G => k lv r G c s))
      | none => none) else none
    | _ => none)
  | _ => none
noncomputable def mzLen (k : mzK) : mzK := fun lv st H c s => match st with
  | .ref a :: r => (match mzNq H a with
    | some (.inl (_, l)) => k lv (.int (Int32.ofNat l.length) :: r) H c s
    | _ => none)
  | _ => none
def mzNewa (d : Nat) (k : mzK) : mzK := fun lv st H c s => match st with
  | .int n :: r => bif decide (n < 0) then none else bif Nat.ble 1 c && (Nat.ble n.toNatClampNeg s && Nat.ble n.toNatClampNeg 65536) then k lv (.ref H.length :: r) (H ++ [.inl (d, List.replicate n.toNatClampNeg 0)]) (c - 1) (s - n.toNatClampNeg) else none
  | _ => none
def mzNew (ci : Nat) (fs : List Value) (k : mzK) : mzK := fun lv st H c s => bif Nat.ble 1 c && Nat.ble fs.length s then k lv (.ref H.length :: st) (H ++ [.inr (ci, fs)]) (c - 1) (s - fs.length) else none
noncomputable def mzRcv (na ci : Nat) (st : List Value) (H : mzH) : Bool := match mzNq st (na - 1) with
  | some (.ref a) => (match mzNq H a with
    | some (.inr (d, _)) => Nat.beq d ci
    | _ => false)
  | _ => false
def mzInv (g : List Value → mzH → Bool) (nl : Nat) (callee : mzK) (na mc ms : Nat) (k : mzK) : mzK := fun lv st H c s =>
  bif g st H && (Nat.ble na st.length && (Nat.ble (mzWd (st.drop na)) 8 && (Nat.ble mc c && (Nat.ble ms s && Nat.ble (mzWd (st.take na)) nl)))) then
    (match callee (lv_args 0 (st.take na).reverse) [] H mc ms with
    | some (o, H1) => k lv (o.toList ++ st.drop na) H1 (c - mc) (s - ms)
    | none => none) else none
def mzCpy (f g : List Int32) (sp dp n : Nat) : List Int32 := g.take dp ++ ((f.drop sp).take n ++ g.drop (dp + n))
noncomputable def mzAcp (k : mzK) : mzK := fun lv st H c s => match st with
  | .int n :: .int dp :: .ref a :: .int sp :: .ref a0 :: r => (match mzNq H a0, mzNq H a with
    | some (.inl (0, f)), some (.inl (0, g)) => bif decide (sp < 0) || (decide (dp < 0) || decide (n < 0)) then none else
        bif Nat.ble (sp.toNatClampNeg + n.toNatClampNeg) f.length && (Nat.ble (dp.toNatClampNeg + n.toNatClampNeg) g.length && Nat.ble (mzWd r) 8) then mzSetK H a (.inl (0, mzCpy f g sp.toNatClampNeg dp.toNatClampNeg n.toNatClampNeg)) (fun G => k lv r G c s) else none
    | _, _ => none)
  | _ => none
def mzMm (g : Int32 → Int32 → Int32) (k : mzK) : mzK := fun lv st H c s => match st with
  | .int b :: .int a :: r => bif Nat.ble (mzWd r) 8 then k lv (.int (g a b) :: r) H c s else none
  | _ => none
def mzObi (k : mzK) : mzK := fun lv st H c s => match st with
  | .ref _ :: r => bif Nat.ble (mzWd r) 8 then k lv r H c s else none
  | _ => none
def mzIret (b : Nat) : mzK := fun _ st H _ _ => match st with
  | [.int v] => (match b with
    | 0 => some (some (.int v), H)
    | _ => bif decide (v = 0) || decide (v = 1) then some (some (.int v), H) else none)
  | _ => none
def mzLret : mzK := fun _ st H _ _ => match st with
  | [.long v] => some (some (.long v), H)
  | _ => none
def mzAret : mzK := fun _ st H _ _ => match st with
  | [.ref v] => some (some (.ref v), H)
  | _ => none
def mzVret : mzK := fun _ st H _ _ => match st with
  | [] => some (none, H)
  | _ => none
/-- a String constant's length; its char at the number that one local holds, two together -/
def mzSln (x : Nat) (k : mzK) : mzK := fun lv st H c s => bif Nat.ble (mzWd st) 8 then k lv (.int (Int32.ofNat (sLn.getD x 0)) :: st) H c s else none
noncomputable def mzSc1 (x a : Nat) (k : mzK) : mzK := fun lv st H c s => match mzGet ((zf4 a : Fin 4) : Nat) lv with
  | some (.int i) => (match mzIx (sBy.getD x []) i with
    | some v => bif Nat.ble (mzWd st) 8 then k lv (.int v :: st) H c s else none
    | none => none)
  | _ => none
noncomputable def mzSc2 (x a b : Nat) (k : mzK) : mzK := fun lv st H c s => match mzGet ((zf4 a : Fin 4) : Nat) lv with
  | some (.int i) => (match mzGet ((zf4 b : Fin 4) : Nat) lv with
    | some (.int j) => (match mzIx (sBy.getD x []) (i + j) with
      | some v => bif Nat.ble (mzWd st) 8 then k lv (.int v :: st) H c s else none
      | none => none)
    | _ => none)
  | _ => none
/-- a handler: how an instruction goes on. Each is closed, so that a step costs the kernel little -/
abbrev mzHd : Type := (Nat → mzB → List mzO → mzK) → Nat → mzB → Nat → Nat → List Nat → List mzO → mzK
def mhNo : mzHd := fun _ _ _ _ _ _ _ => mzNo
noncomputable def mh_nop : mzHd := fun ih nL bl x y ts r => ih nL bl (mzBlk bl x)
noncomputable def mh_iconst (n : Int) : mzHd := fun ih nL bl x y ts r => mzPush (.int (Int32.ofInt n)) (ih nL bl r)
noncomputable def mh_bipush (n : Int) : mzHd := fun ih nL bl x y ts r => mzPush (.int (Int8.ofInt n).toInt32) (ih nL bl r)
noncomputable def mh_sipush (n : Int) : mzHd := fun ih nL bl x y ts r => mzPush (.int (Int16.ofInt n).toInt32) (ih nL bl r)
noncomputable def mh_lconst (n : Fin 2) : mzHd := fun ih nL bl x y ts r => mzPush (.long (Int64.ofNat (n : Nat))) (ih nL bl r)
noncomputable def mh_ldc : mzHd := fun ih nL bl x y ts r => (match ts with | [_] => mzPush (.int (Int32.ofNat x)) (ih nL bl r) | [_, _] => mzSln x (ih nL bl r) | [_, a, _] => mzSc1 x a (ih nL bl r) | [_, a, _, b] => mzSc2 x a b (ih nL bl r) | _ => mzNo)
noncomputable def mh_ldc2_w : mzHd := fun ih nL bl x y ts r => (match ts with | [_] => mzPush (.long (Int64.ofNat x)) (ih nL bl r) | _ => mzNo)
noncomputable def mh_iload (k : Nat) : mzHd := fun ih nL bl x y ts r => mzIld k (ih nL bl r)
noncomputable def mh_iload_n (k : Fin 4) : mzHd := fun ih nL bl x y ts r => mzIld (k : Nat) (ih nL bl r)
noncomputable def mh_lload (k : Nat) : mzHd := fun ih nL bl x y ts r => mzLld k (ih nL bl r)
noncomputable def mh_lload_n (k : Fin 4) : mzHd := fun ih nL bl x y ts r => mzLld (k : Nat) (ih nL bl r)
noncomputable def mh_aload (k : Nat) : mzHd := fun ih nL bl x y ts r => mzAld k (ih nL bl r)
noncomputable def mh_aload_n (k : Fin 4) : mzHd := fun ih nL bl x y ts r => mzAld (k : Nat) (ih nL bl r)
noncomputable def mh_istore (k : Nat) : mzHd := fun ih nL bl x y ts r => mzIst nL k (ih nL bl r)
noncomputable def mh_istore_n (k : Fin 4) : mzHd := fun ih nL bl x y ts r => mzIst nL (k : Nat) (ih nL bl r)
noncomputable def mh_lstore (k : Nat) : mzHd := fun ih nL bl x y ts r => mzLst nL k (ih nL bl r)
noncomputable def mh_lstore_n (k : Fin 4) : mzHd := fun ih nL bl x y ts r => mzLst nL (k : Nat) (ih nL bl r)
noncomputable def mh_astore (k : Nat) : mzHd := fun ih nL bl x y ts r => mzAst nL k (ih nL bl r)
noncomputable def mh_astore_n (k : Fin 4) : mzHd := fun ih nL bl x y ts r => mzAst nL (k : Nat) (ih nL bl r)
noncomputable def mh_iinc (k : Nat) (d : Int) : mzHd := fun ih nL bl x y ts r => mzInc nL k d (ih nL bl r)
noncomputable def mh_iadd : mzHd := fun ih nL bl x y ts r => mzI2 (fun a b => a + b) (ih nL bl r)
noncomputable def mh_isub : mzHd := fun ih nL bl x y ts r => mzI2 (fun a b => a - b) (ih nL bl r)
noncomputable def mh_imul : mzHd := fun ih nL bl x y ts r => mzI2 (fun a b => a * b) (ih nL bl r)
noncomputable def mh_irem : mzHd := fun ih nL bl x y ts r => mzRem (ih nL bl r)
noncomputable def mh_iand : mzHd := fun ih nL bl x y ts r => mzI2 (fun a b => a &&& b) (ih nL bl r)
noncomputable def mh_ior : mzHd := fun ih nL bl x y ts r => mzI2 (fun a b => a ||| b) (ih nL bl r)
noncomputable def mh_ixor : mzHd := fun ih nL bl x y ts r => mzI2 (fun a b => a ^^^ b) (ih nL bl r)
noncomputable def mh_ishl : mzHd := fun ih nL bl x y ts r => mzI2 (fun a b => a <<< (b &&& 31)) (ih nL bl r)
noncomputable def mh_ishr : mzHd := fun ih nL bl x y ts r => mzI2 (fun a b => a >>> (b &&& 31)) (ih nL bl r)
noncomputable def mh_iushr : mzHd := fun ih nL bl x y ts r => mzI2 (fun a b => (a.toUInt32 >>> (b.toUInt32 &&& Int32.toUInt32 31)).toInt32) (ih nL bl r)
noncomputable def mh_ladd : mzHd := fun ih nL bl x y ts r => mzL2 (fun a b => a + b) (ih nL bl r)
noncomputable def mh_lsub : mzHd := fun ih nL bl x y ts r => mzL2 (fun a b => a - b) (ih nL bl r)
noncomputable def mh_land : mzHd := fun ih nL bl x y ts r => mzL2 (fun a b => a &&& b) (ih nL bl r)
noncomputable def mh_lor : mzHd := fun ih nL bl x y ts r => mzL2 (fun a b => a ||| b) (ih nL bl r)
noncomputable def mh_lshl : mzHd := fun ih nL bl x y ts r => mzLsh (fun a b => a <<< (b.toInt64 &&& 63)) (ih nL bl r)
noncomputable def mh_lushr : mzHd := fun ih nL bl x y ts r => mzLsh (fun a b => (a.toUInt64 >>> (b.toInt64.toUInt64 &&& Int64.toUInt64 63)).toInt64) (ih nL bl r)
noncomputable def mh_lcmp : mzHd := fun ih nL bl x y ts r => mzLcmp (ih nL bl r)
noncomputable def mh_i2l : mzHd := fun ih nL bl x y ts r => mzI1 (fun a => .long a.toInt64) (ih nL bl r)
noncomputable def mh_i2b : mzHd := fun ih nL bl x y ts r => mzI1 (fun a => .int a.toInt8.toInt32) (ih nL bl r)
noncomputable def mh_l2i : mzHd := fun ih nL bl x y ts r => mzL1 (fun a => .int a.toInt32) (ih nL bl r)
noncomputable def mh_dup : mzHd := fun ih nL bl x y ts r => mzDup (ih nL bl r)
noncomputable def mh_dup2 : mzHd := fun ih nL bl x y ts r => mzDup2 (ih nL bl r)
noncomputable def mh_pop : mzHd := fun ih nL bl x y ts r => mzPop (ih nL bl r)
noncomputable def mh_goto : mzHd := fun ih nL bl x y ts r => ih nL bl (mzBlk bl x)
noncomputable def mh_ifCond (q : ClassFile.Cond) : mzHd := fun ih nL bl x y ts r => mzIf q (ih nL bl (mzBlk bl x)) (ih nL bl r)
noncomputable def mh_if_icmp (q : ClassFile.Cond) : mzHd := fun ih nL bl x y ts r => mzIf2 q (ih nL bl (mzBlk bl x)) (ih nL bl r)
noncomputable def mh_tableswitch (lo : Int) (hi : Int) : mzHd := fun ih nL bl x y ts r => mzSw lo hi ts (ih nL bl (mzBlk bl x)) (fun b => ih nL bl (mzBlk bl b))
noncomputable def mh_getfield : mzHd := fun ih nL bl x y ts r => (match ts with | [_] => mzGf x y (ih nL bl r) | _ => mzNo)
noncomputable def mh_putfield : mzHd := fun ih nL bl x y ts r => (match ts with | [t] => mzPf x y t (ih nL bl r) | _ => mzNo)
noncomputable def mh_iaload : mzHd := fun ih nL bl x y ts r => mzAl false (ih nL bl r)
noncomputable def mh_baload : mzHd := fun ih nL bl x y ts r => mzAl true (ih nL bl r)
noncomputable def mh_iastore : mzHd := fun ih nL bl x y ts r => mzAs false (ih nL bl r)
noncomputable def mh_bastore : mzHd := fun ih nL bl x y ts r => mzAs true (ih nL bl r)
noncomputable def mh_arraylength : mzHd := fun ih nL bl x y ts r => mzLen (ih nL bl r)
noncomputable def mh_newarray : mzHd := fun ih nL bl x y ts r => (match ts with | [_] => mzNewa x (ih nL bl r) | _ => mzNo)
noncomputable def mh_new : mzHd := fun ih nL bl x y ts r => (match ts with | [_] => mzNew x (zD x) (ih nL bl r) | _ => mzNo)
noncomputable def mh_invokevirtual : mzHd := fun ih nL bl x y ts r => (match ts with | [na, mc, ms] => mzInv (mzRcv na y) (zN x) (ih (zN x) (zB x) (mzBlk (zB x) 0)) na mc ms (ih nL bl r) | _ => mzNo)
noncomputable def mh_invokestatic : mzHd := fun ih nL bl x y ts r => (match ts with | [na, mc, ms] => mzInv (fun _ _ => true) (zN x) (ih (zN x) (zB x) (mzBlk (zB x) 0)) na mc ms (ih nL bl r) | [0] => mzAcp (ih nL bl r) | [1] => mzMm (fun a b => if a < b then b else a) (ih nL bl r) | [_] => mzMm (fun a b => if b < a then b else a) (ih nL bl r) | _ => mzNo)
noncomputable def mh_invokespecial : mzHd := fun ih nL bl x y ts r => (match ts with | [na, mc, ms] => mzInv (mzRcv na y) (zN x) (ih (zN x) (zB x) (mzBlk (zB x) 0)) na mc ms (ih nL bl r) | [_] => mzObi (ih nL bl r) | _ => mzNo)
noncomputable def mh_ireturn : mzHd := fun ih nL bl x y ts r => mzIret x
noncomputable def mh_lreturn : mzHd := fun ih nL bl x y ts r => mzLret
noncomputable def mh_areturn : mzHd := fun ih nL bl x y ts r => mzAret
noncomputable def mh_return_ : mzHd := fun ih nL bl x y ts r => mzVret
noncomputable def mzSem (i : Instr) : mzHd := @Instr.rec (fun _ => mzHd)
  mhNo
  mhNo
  mhNo
  (fun k => (mh_aload k))
  (fun k => (mh_aload_n k))
  (fun _ => mhNo)
  mh_areturn
  mh_arraylength
  (fun k => (mh_astore k))
  (fun k => (mh_astore_n k))
  mhNo
  mh_baload
  mh_bastore
  (fun n => (mh_bipush n))
  mhNo
  mhNo
  (fun _ => mhNo)
  mhNo
  mhNo
  mhNo
  mhNo
  mhNo
  mhNo
  (fun _ => mhNo)
  (fun _ => mhNo)
  mhNo
  (fun _ => mhNo)
  (fun _ => mhNo)
  mhNo
  mhNo
  mhNo
  mhNo
  (fun _ => mhNo)
  (fun _ => mhNo)
  mhNo
  mh_dup
  mhNo
  mhNo
  mh_dup2
  mhNo
  mhNo
  mhNo
  mhNo
  mhNo
  mhNo
  mhNo
  mhNo
  (fun _ => mhNo)
  (fun _ => mhNo)
  mhNo
  (fun _ => mhNo)
  (fun _ => mhNo)
  mhNo
  mhNo
  mhNo
  mhNo
  (fun _ => mhNo)
  (fun _ => mhNo)
  mhNo
  (fun _ => mh_getfield)
  (fun _ => mhNo)
  (fun _ => mh_goto)
  (fun _ => mhNo)
  mh_i2b
  mhNo
  mhNo
  mhNo
  mh_i2l
  mhNo
  mh_iadd
  mh_iaload
  mh_iand
  mh_iastore
  (fun n => (mh_iconst n))
  mhNo
  (fun _ _ => mhNo)
  (fun q _ => (mh_if_icmp q))
  (fun q _ => (mh_ifCond q))
  (fun _ => mhNo)
  (fun _ => mhNo)
  (fun k d => (mh_iinc k d))
  (fun k => (mh_iload k))
  (fun k => (mh_iload_n k))
  mh_imul
  mhNo
  (fun _ => mhNo)
  (fun _ => mhNo)
  (fun _ _ => mhNo)
  (fun _ => mh_invokespecial)
  (fun _ => mh_invokestatic)
  (fun _ => mh_invokevirtual)
  mh_ior
  mh_irem
  mh_ireturn
  mh_ishl
  mh_ishr
  (fun k => (mh_istore k))
  (fun k => (mh_istore_n k))
  mh_isub
  mh_iushr
  mh_ixor
  (fun _ => mhNo)
  (fun _ => mhNo)
  mhNo
  mhNo
  mh_l2i
  mh_ladd
  mhNo
  mh_land
  mhNo
  mh_lcmp
  (fun n => (mh_lconst n))
  (fun _ => mh_ldc)
  (fun _ => mhNo)
  (fun _ => mh_ldc2_w)
  mhNo
  (fun k => (mh_lload k))
  (fun k => (mh_lload_n k))
  mhNo
  mhNo
  (fun _ _ => mhNo)
  mh_lor
  mhNo
  mh_lreturn
  mh_lshl
  mhNo
  (fun k => (mh_lstore k))
  (fun k => (mh_lstore_n k))
  mh_lsub
  mh_lushr
  mhNo
  mhNo
  mhNo
  (fun _ _ => mhNo)
  (fun _ => mh_new)
  (fun _ => mh_newarray)
  mh_nop
  mh_pop
  mhNo
  (fun _ => mh_putfield)
  (fun _ => mhNo)
  (fun _ => mhNo)
  mh_return_
  mhNo
  mhNo
  (fun n => (mh_sipush n))
  mhNo
  (fun _ lo hi _ => (mh_tableswitch lo hi))
  i
noncomputable def mzStp (ih : Nat → mzB → List mzO → mzK) (nL : Nat) (bl : mzB) (ops : List mzO) : mzK :=
  match ops with
  | [] => mzNo
  | (_, i, x, y, ts) :: r => mzSem i ih nL bl x y ts r
/-- a run: fuel, the method's locals, its blocks, what is left of the block -/
noncomputable def zEx (f : Nat) : Nat → mzB → List mzO → mzK :=
  Nat.rec (fun _ _ _ => mzNo) (fun _ ih => mzStp ih) f
