section
/-! THE MINI MACHINE: the bytecode of class and reference run over a heap of cells by number. A run of it that ends is a walk of the machine itself (part 12). -/
/-- a cell: an array of small ints (0 int, 1 boolean, 2 byte), or an object (the number of its class, its fields); a reference is a cell's number -/
abbrev mzC : Type := (Nat × List Int32) ⊕ (Nat × List Value)
abbrev mzH : Type := List mzC
abbrev mzL : Type := List (Nat × Value)
/-- pc, instruction, two numbers (a block, a field, a callee ..), a list of numbers -/
abbrev mzO : Type := Nat × Instr × Nat × Nat × List Nat
abbrev mzB : Type := List (List mzO)
abbrev mzR : Type := Option (Option Value × mzH)
/-- a way to go on: locals, stack, heap, cells left, slots left -/
abbrev mzK : Type := mzL → List Value → mzH → Nat → Nat → mzR
def mzNth {α : Type} : List α → Nat → Option α
  | [], _ => none
  | a :: _, 0 => some a
  | _ :: l, n + 1 => mzNth l n
theorem mzNth_eq {α : Type} : ∀ (l : List α) (n : Nat), mzNth l n = l[n]?
  | [], n => by simp [mzNth]
  | a :: l, 0 => by simp [mzNth]
  | a :: l, n + 1 => by simp [mzNth, mzNth_eq l n]
def mzSet {α : Type} : List α → Nat → α → List α
  | [], _, _ => []
  | _ :: l, 0, b => b :: l
  | a :: l, n + 1, b => a :: mzSet l n b
theorem mzSet_eq {α : Type} : ∀ (l : List α) (n : Nat) (b : α), mzSet l n b = l.set n b
  | [], n, b => by simp [mzSet]
  | a :: l, 0, b => by simp [mzSet]
  | a :: l, n + 1, b => by simp [mzSet, mzSet_eq l n b]
def mzGet : Nat → mzL → Option Value
  | _, [] => none
  | i, (k, v) :: r => bif Nat.beq k i then some v else mzGet i r
theorem mzGet_mem : ∀ {i : Nat} {l : mzL} {v : Value}, mzGet i l = some v → (i, v) ∈ l
  | i, [], v, h => by simp [mzGet] at h
  | i, (k, w) :: r, v, h => by
    unfold mzGet at h
    cases e : Nat.beq k i with
    | true =>
      rw [e] at h
      have hk : k = i := Nat.eq_of_beq_eq_true e
      simp only [cond_true, Option.some.injEq] at h
      subst hk; subst h
      exact List.mem_cons_self
    | false =>
      rw [e] at h
      simp only [cond_false] at h
      exact List.mem_cons_of_mem _ (mzGet_mem h)
def mzSt1 (i : Nat) (v : Value) (lv : mzL) : mzL := (i, v) :: lv.filter (fun q => !(q.1 == i) && !(q.1 + 1 == i && q.2.category == 2))
def mzSt2 (i : Nat) (v : Value) (lv : mzL) : mzL := (i, v) :: lv.filter (fun q => !(q.1 == i) && (!(q.1 == i + 1) && !(q.1 + 1 == i && q.2.category == 2)))
def mzWd (st : List Value) : Nat := (st.map fun v => v.category).sum
def mzPc : List mzO → Nat
  | [] => 0
  | q :: _ => q.1
def mzBlk (bl : mzB) (x : Nat) : List mzO := (mzNth bl x).getD []
def mzNo : mzK := fun _ _ _ _ _ => none
def mzPush (v : Value) (k : mzK) : mzK := fun lv st H c s => k lv (v :: st) H c s
def mzIld (i : Nat) (k : mzK) : mzK := fun lv st H c s => match mzGet i lv with
  | some (.int v) => k lv (.int v :: st) H c s
  | _ => none
def mzLld (i : Nat) (k : mzK) : mzK := fun lv st H c s => match mzGet i lv with
  | some (.long v) => k lv (.long v :: st) H c s
  | _ => none
def mzAld (i : Nat) (k : mzK) : mzK := fun lv st H c s => match mzGet i lv with
  | some (.ref v) => k lv (.ref v :: st) H c s
  | _ => none
def mzIst (n i : Nat) (k : mzK) : mzK := fun lv st H c s => match st with
  | .int v :: r => bif Nat.blt i n then k (mzSt1 i (.int v) lv) r H c s else none
  | _ => none
def mzAst (n i : Nat) (k : mzK) : mzK := fun lv st H c s => match st with
  | .ref v :: r => bif Nat.blt i n then k (mzSt1 i (.ref v) lv) r H c s else none
  | _ => none
def mzLst (n i : Nat) (k : mzK) : mzK := fun lv st H c s => match st with
  | .long v :: r => bif Nat.blt (i + 1) n then k (mzSt2 i (.long v) lv) r H c s else none
  | _ => none
def mzInc (n i : Nat) (d : Int) (k : mzK) : mzK := fun lv st H c s => match mzGet i lv with
  | some (.int v) => bif Nat.blt i n then k (mzSt1 i (.int (v + Int32.ofInt d)) lv) st H c s else none
  | _ => none
def mzI2 (g : Int32 → Int32 → Int32) (k : mzK) : mzK := fun lv st H c s => match st with
  | .int b :: .int a :: r => k lv (.int (g a b) :: r) H c s
  | _ => none
def mzRem (k : mzK) : mzK := fun lv st H c s => match st with
  | .int b :: .int a :: r => bif decide (b = 0) then none else k lv (.int (a - a / b * b) :: r) H c s
  | _ => none
def mzL2 (g : Int64 → Int64 → Int64) (k : mzK) : mzK := fun lv st H c s => match st with
  | .long b :: .long a :: r => k lv (.long (g a b) :: r) H c s
  | _ => none
def mzLsh (g : Int64 → Int32 → Int64) (k : mzK) : mzK := fun lv st H c s => match st with
  | .int b :: .long a :: r => k lv (.long (g a b) :: r) H c s
  | _ => none
def mzLcmp (k : mzK) : mzK := fun lv st H c s => match st with
  | .long b :: .long a :: r => k lv (.int (lg_cmp a b) :: r) H c s
  | _ => none
def mzI1 (g : Int32 → Value) (k : mzK) : mzK := fun lv st H c s => match st with
  | .int a :: r => k lv (g a :: r) H c s
  | _ => none
def mzL1 (g : Int64 → Value) (k : mzK) : mzK := fun lv st H c s => match st with
  | .long a :: r => k lv (g a :: r) H c s
  | _ => none
def mzDup (k : mzK) : mzK := fun lv st H c s => match st with
  | a :: r => bif Nat.beq a.category 1 then k lv (a :: a :: r) H c s else none
  | _ => none
def mzDup2 (k : mzK) : mzK := fun lv st H c s => match st with
  | a :: b :: r => bif Nat.beq a.category 1 && Nat.beq b.category 1 then k lv (a :: b :: a :: b :: r) H c s else none
  | _ => none
def mzPop (k : mzK) : mzK := fun lv st H c s => match st with
  | a :: r => bif Nat.beq a.category 1 then k lv r H c s else none
  | _ => none
def mzCnd (q : ClassFile.Cond) (a b : Int32) : Bool := match q with
  | .eq => decide (a = b)
  | .ne => !decide (a = b)
  | .lt => decide (a < b)
  | .ge => decide (b ≤ a)
  | .gt => decide (b < a)
  | .le => decide (a ≤ b)
def mzIf (q : ClassFile.Cond) (kt kf : mzK) : mzK := fun lv st H c s => match st with
  | .int a :: r => bif mzCnd q a 0 then kt lv r H c s else kf lv r H c s
  | _ => none
def mzIf2 (q : ClassFile.Cond) (kt kf : mzK) : mzK := fun lv st H c s => match st with
  | .int b :: .int a :: r => bif mzCnd q a b then kt lv r H c s else kf lv r H c s
  | _ => none
def mzSw (lo hi : Int) (ts : List Nat) (kd : mzK) (kt : Nat → mzK) : mzK := fun lv st H c s => match st with
  | .int a :: r => bif decide (a.toInt < lo) || decide (hi < a.toInt) then kd lv r H c s else match mzNth ts (a.toInt - lo).toNat with
    | some b => kt b lv r H c s
    | none => none
  | _ => none
def mzGf (ci f : Nat) (k : mzK) : mzK := fun lv st H c s => match st with
  | .ref a :: r => (match mzNth H a with
    | some (.inr (d, fs)) => bif Nat.beq d ci then (match mzNth fs f with
      | some v => k lv (v :: r) H c s
      | none => none) else none
    | _ => none)
  | _ => none
/-- may the value stand in a field: 0 an int, 1 a boolean, else a reference -/
def mzFit (t : Nat) (v : Value) : Bool := match t, v with
  | 0, .int _ => true
  | 1, .int b => decide (b = 0) || decide (b = 1)
  | 2, .ref _ => true
  | _, _ => false
def mzPf (ci f t : Nat) (k : mzK) : mzK := fun lv st H c s => match st with
  | v :: .ref a :: r => (match mzNth H a with
    | some (.inr (d, fs)) => bif Nat.beq d ci && (Nat.blt f fs.length && mzFit t v) then k lv r (mzSet H a (.inr (d, mzSet fs f v))) c s else none
    | _ => none)
  | _ => none
def mzIx (l : List Int32) (i : Int32) : Option Int32 := bif decide (i < 0) then none else mzNth l i.toNatClampNeg
def mzAl (b : Bool) (k : mzK) : mzK := fun lv st H c s => match st with
  | .int i :: .ref a :: r => (match mzNth H a with
    | some (.inl (d, l)) => bif Bool.xor b (Nat.beq d 0) then (match mzIx l i with
      | some v => k lv (.int v :: r) H c s
      | none => none) else none
    | _ => none)
  | _ => none
def mzTy (d : Nat) : FieldType := match d with
  | 0 => .int
  | 1 => .boolean
  | _ => .byte
def mzAs (b : Bool) (k : mzK) : mzK := fun lv st H c s => match st with
  | .int x :: .int i :: .ref a :: r => (match mzNth H a with
    | some (.inl (d, l)) => bif Bool.xor b (Nat.beq d 0) then (match mzIx l i with
      | some _ => k lv r (mzSet H a (.inl (d, mzSet l i.toNatClampNeg (vp_nar (mzTy d) x)))) c s
      | none => none) else none
    | _ => none)
  | _ => none
def mzLen (k : mzK) : mzK := fun lv st H c s => match st with
  | .ref a :: r => (match mzNth H a with
    | some (.inl (_, l)) => k lv (.int (Int32.ofNat l.length) :: r) H c s
    | _ => none)
  | _ => none
def mzNewa (d : Nat) (k : mzK) : mzK := fun lv st H c s => match st with
  | .int n :: r => bif decide (n < 0) then none else bif Nat.ble 1 c && (Nat.ble n.toNatClampNeg s && Nat.ble n.toNatClampNeg 65536) then k lv (.ref H.length :: r) (H ++ [.inl (d, List.replicate n.toNatClampNeg 0)]) (c - 1) (s - n.toNatClampNeg) else none
  | _ => none
def mzNew (ci : Nat) (fs : List Value) (k : mzK) : mzK := fun lv st H c s => bif Nat.ble 1 c && Nat.ble fs.length s then k lv (.ref H.length :: st) (H ++ [.inr (ci, fs)]) (c - 1) (s - fs.length) else none
def mzRcv (na ci : Nat) (st : List Value) (H : mzH) : Bool := match mzNth st (na - 1) with
  | some (.ref a) => (match mzNth H a with
    | some (.inr (d, _)) => Nat.beq d ci
    | _ => false)
  | _ => false
def mzInv (g : List Value → mzH → Bool) (nl : Nat) (callee : mzK) (na mc ms : Nat) (k : mzK) : mzK := fun lv st H c s =>
  bif g st H && (Nat.ble na st.length && (Nat.ble (mzWd (st.drop na)) 8 && (Nat.ble mc c && (Nat.ble ms s && Nat.ble (mzWd (st.take na)) nl)))) then
    (match callee (lv_args 0 (st.take na).reverse) [] H mc ms with
    | some (o, H1) => k lv (o.toList ++ st.drop na) H1 (c - mc) (s - ms)
    | none => none) else none
def mzCpy (f g : List Int32) (sp dp n : Nat) : List Int32 := g.take dp ++ ((f.drop sp).take n ++ g.drop (dp + n))
def mzAcp (k : mzK) : mzK := fun lv st H c s => match st with
  | .int n :: .int dp :: .ref a :: .int sp :: .ref a0 :: r => (match mzNth H a0, mzNth H a with
    | some (.inl (0, f)), some (.inl (0, g)) => bif decide (sp < 0) || (decide (dp < 0) || decide (n < 0)) then none else
        bif Nat.ble (sp.toNatClampNeg + n.toNatClampNeg) f.length && (Nat.ble (dp.toNatClampNeg + n.toNatClampNeg) g.length && Nat.ble (mzWd r) 8) then k lv r (mzSet H a (.inl (0, mzCpy f g sp.toNatClampNeg dp.toNatClampNeg n.toNatClampNeg))) c s else none
    | _, _ => none)
  | _ => none
def mzMm (g : Int32 → Int32 → Int32) (k : mzK) : mzK := fun lv st H c s => match st with
  | .int b :: .int a :: r => bif Nat.ble (mzWd r) 8 then k lv (.int (g a b) :: r) H c s else none
  | _ => none
def mzObi (k : mzK) : mzK := fun lv st H c s => match st with
  | .ref _ :: r => bif Nat.ble (mzWd r) 8 then k lv r H c s else none
  | _ => none
def mzIret (b : Nat) : mzK := fun _ st H _ _ => match st with
  | [.int v] => (match b with
    | 0 => some (some (.int v), H)
    | _ => bif decide (v = 0) || decide (v = 1) then some (some (.int v), H) else none)
  | _ => none
def mzLret : mzK := fun _ st H _ _ => match st with
  | [.long v] => some (some (.long v), H)
  | _ => none
def mzAret : mzK := fun _ st H _ _ => match st with
  | [.ref v] => some (some (.ref v), H)
  | _ => none
def mzVret : mzK := fun _ st H _ _ => match st with
  | [] => some (none, H)
  | _ => none
/-- one step: B the methods' blocks, D the fields of a new object, nL the method's locals -/
def mzStp (B : Nat → mzB) (N : Nat → Nat) (D : Nat → List Value) (ih : Nat → mzB → List mzO → mzK) (nL : Nat) (bl : mzB) (ops : List mzO) : mzK :=
  match ops with
  | [] => mzNo
  | (_, i, x, y, ts) :: r =>
    match i with
    | .nop => ih nL bl (mzBlk bl x)
    | .iconst n => mzPush (.int (Int32.ofInt n)) (ih nL bl r)
    | .bipush n => mzPush (.int (Int8.ofInt n).toInt32) (ih nL bl r)
    | .sipush n => mzPush (.int (Int16.ofInt n).toInt32) (ih nL bl r)
    | .lconst n => mzPush (.long (Int64.ofNat (n : Nat))) (ih nL bl r)
    | .ldc _ => (match ts with | [_] => mzPush (.int (Int32.ofNat x)) (ih nL bl r) | _ => mzNo)
    | .ldc2_w _ => (match ts with | [_] => mzPush (.long (Int64.ofNat x)) (ih nL bl r) | _ => mzNo)
    | .iload k => mzIld k (ih nL bl r)
    | .iload_n k => mzIld (k : Nat) (ih nL bl r)
    | .lload k => mzLld k (ih nL bl r)
    | .lload_n k => mzLld (k : Nat) (ih nL bl r)
    | .aload k => mzAld k (ih nL bl r)
    | .aload_n k => mzAld (k : Nat) (ih nL bl r)
    | .istore k => mzIst nL k (ih nL bl r)
    | .istore_n k => mzIst nL (k : Nat) (ih nL bl r)
    | .lstore k => mzLst nL k (ih nL bl r)
    | .lstore_n k => mzLst nL (k : Nat) (ih nL bl r)
    | .astore k => mzAst nL k (ih nL bl r)
    | .astore_n k => mzAst nL (k : Nat) (ih nL bl r)
    | .iinc k d => mzInc nL k d (ih nL bl r)
    | .iadd => mzI2 (fun a b => a + b) (ih nL bl r)
    | .isub => mzI2 (fun a b => a - b) (ih nL bl r)
    | .imul => mzI2 (fun a b => a * b) (ih nL bl r)
    | .irem => mzRem (ih nL bl r)
    | .iand => mzI2 (fun a b => a &&& b) (ih nL bl r)
    | .ior => mzI2 (fun a b => a ||| b) (ih nL bl r)
    | .ixor => mzI2 (fun a b => a ^^^ b) (ih nL bl r)
    | .ishl => mzI2 (fun a b => a <<< (b &&& 31)) (ih nL bl r)
    | .ishr => mzI2 (fun a b => a >>> (b &&& 31)) (ih nL bl r)
    | .iushr => mzI2 (fun a b => (a.toUInt32 >>> (b.toUInt32 &&& Int32.toUInt32 31)).toInt32) (ih nL bl r)
    | .ladd => mzL2 (fun a b => a + b) (ih nL bl r)
    | .lsub => mzL2 (fun a b => a - b) (ih nL bl r)
    | .land => mzL2 (fun a b => a &&& b) (ih nL bl r)
    | .lor => mzL2 (fun a b => a ||| b) (ih nL bl r)
    | .lshl => mzLsh (fun a b => a <<< (b.toInt64 &&& 63)) (ih nL bl r)
    | .lushr => mzLsh (fun a b => (a.toUInt64 >>> (b.toInt64.toUInt64 &&& Int64.toUInt64 63)).toInt64) (ih nL bl r)
    | .lcmp => mzLcmp (ih nL bl r)
    | .i2l => mzI1 (fun a => .long a.toInt64) (ih nL bl r)
    | .i2b => mzI1 (fun a => .int a.toInt8.toInt32) (ih nL bl r)
    | .l2i => mzL1 (fun a => .int a.toInt32) (ih nL bl r)
    | .dup => mzDup (ih nL bl r)
    | .dup2 => mzDup2 (ih nL bl r)
    | .pop => mzPop (ih nL bl r)
    | .goto _ => ih nL bl (mzBlk bl x)
    | .ifCond q _ => mzIf q (ih nL bl (mzBlk bl x)) (ih nL bl r)
    | .if_icmp q _ => mzIf2 q (ih nL bl (mzBlk bl x)) (ih nL bl r)
    | .tableswitch _ lo hi _ => mzSw lo hi ts (ih nL bl (mzBlk bl x)) (fun b => ih nL bl (mzBlk bl b))
    | .getfield _ => (match ts with | [_] => mzGf x y (ih nL bl r) | _ => mzNo)
    | .putfield _ => (match ts with | [t] => mzPf x y t (ih nL bl r) | _ => mzNo)
    | .iaload => mzAl false (ih nL bl r)
    | .baload => mzAl true (ih nL bl r)
    | .iastore => mzAs false (ih nL bl r)
    | .bastore => mzAs true (ih nL bl r)
    | .arraylength => mzLen (ih nL bl r)
    | .newarray _ => (match ts with | [_] => mzNewa x (ih nL bl r) | _ => mzNo)
    | .new _ => (match ts with | [_] => mzNew x (D x) (ih nL bl r) | _ => mzNo)
    | .invokevirtual _ => (match ts with | [na, mc, ms] => mzInv (mzRcv na y) (N x) (ih (N x) (B x) (mzBlk (B x) 0)) na mc ms (ih nL bl r) | _ => mzNo)
    | .invokestatic _ => (match ts with | [na, mc, ms] => mzInv (fun _ _ => true) (N x) (ih (N x) (B x) (mzBlk (B x) 0)) na mc ms (ih nL bl r) | [0] => mzAcp (ih nL bl r) | [1] => mzMm (fun a b => if a < b then b else a) (ih nL bl r) | [_] => mzMm (fun a b => if b < a then b else a) (ih nL bl r) | _ => mzNo)
    | .invokespecial _ => (match ts with | [na, mc, ms] => mzInv (mzRcv na y) (N x) (ih (N x) (B x) (mzBlk (B x) 0)) na mc ms (ih nL bl r) | [_] => mzObi (ih nL bl r) | _ => mzNo)
    | .ireturn => mzIret x
    | .lreturn => mzLret
    | .areturn => mzAret
    | .return_ => mzVret
    | _ => mzNo
def mzEx (B : Nat → mzB) (N : Nat → Nat) (D : Nat → List Value) (f : Nat) : Nat → mzB → List mzO → mzK :=
  Nat.rec (fun _ _ _ => mzNo) (fun _ ih => mzStp B N D ih) f
theorem mzEx_succ (B : Nat → mzB) (N : Nat → Nat) (D : Nat → List Value) (f : Nat) : mzEx B N D (f + 1) = mzStp B N D (mzEx B N D f) := rfl
end
section
/-! WHAT AN INSTRUCTION OF THE MINI MACHINE HAS FOUND, IF ITS RUN ENDS -/
section
variable {k kt kf : mzK} {lv : mzL} {st : List Value} {H : mzH} {c s : Nat} {q : Option Value × mzH}
theorem mzIld_i {i : Nat} (h : mzIld i k lv st H c s = some q) : ∃ v, mzGet i lv = some (.int v) ∧ k lv (.int v :: st) H c s = some q := by
  unfold mzIld at h; split at h
  · rename_i v e; exact ⟨v, e, h⟩
  · cases h
theorem mzLld_i {i : Nat} (h : mzLld i k lv st H c s = some q) : ∃ v, mzGet i lv = some (.long v) ∧ k lv (.long v :: st) H c s = some q := by
  unfold mzLld at h; split at h
  · rename_i v e; exact ⟨v, e, h⟩
  · cases h
theorem mzAld_i {i : Nat} (h : mzAld i k lv st H c s = some q) : ∃ v, mzGet i lv = some (.ref v) ∧ k lv (.ref v :: st) H c s = some q := by
  unfold mzAld at h; split at h
  · rename_i v e; exact ⟨v, e, h⟩
  · cases h
theorem z_bif {a : Bool} {α : Type} {x : Option α} {y : α} (h : (bif a then x else none) = some y) : a = true ∧ x = some y := by
  cases a with
  | true => exact ⟨rfl, h⟩
  | false => cases h
theorem z_bif2 {a : Bool} {α : Type} {x : Option α} {y : α} (h : (bif a then none else x) = some y) : a = false ∧ x = some y := by
  cases a with
  | true => cases h
  | false => exact ⟨rfl, h⟩
theorem mzIst_i {n i : Nat} (h : mzIst n i k lv st H c s = some q) : ∃ v r, st = .int v :: r ∧ i < n ∧ k (mzSt1 i (.int v) lv) r H c s = some q := by
  unfold mzIst at h; split at h
  · rename_i v r; obtain ⟨h1, h2⟩ := z_bif h; exact ⟨v, r, rfl, Nat.blt_eq.mp h1, h2⟩
  · cases h
theorem mzAst_i {n i : Nat} (h : mzAst n i k lv st H c s = some q) : ∃ v r, st = .ref v :: r ∧ i < n ∧ k (mzSt1 i (.ref v) lv) r H c s = some q := by
  unfold mzAst at h; split at h
  · rename_i v r; obtain ⟨h1, h2⟩ := z_bif h; exact ⟨v, r, rfl, Nat.blt_eq.mp h1, h2⟩
  · cases h
theorem mzLst_i {n i : Nat} (h : mzLst n i k lv st H c s = some q) : ∃ v r, st = .long v :: r ∧ i + 1 < n ∧ k (mzSt2 i (.long v) lv) r H c s = some q := by
  unfold mzLst at h; split at h
  · rename_i v r; obtain ⟨h1, h2⟩ := z_bif h; exact ⟨v, r, rfl, Nat.blt_eq.mp h1, h2⟩
  · cases h
theorem mzInc_i {n i : Nat} {d : Int} (h : mzInc n i d k lv st H c s = some q) : ∃ v, mzGet i lv = some (.int v) ∧ i < n ∧ k (mzSt1 i (.int (v + Int32.ofInt d)) lv) st H c s = some q := by
  unfold mzInc at h; split at h
  · rename_i v e; obtain ⟨h1, h2⟩ := z_bif h; exact ⟨v, e, Nat.blt_eq.mp h1, h2⟩
  · cases h
theorem mzI2_i {g : Int32 → Int32 → Int32} (h : mzI2 g k lv st H c s = some q) : ∃ a b r, st = .int b :: .int a :: r ∧ k lv (.int (g a b) :: r) H c s = some q := by
  unfold mzI2 at h; split at h
  · rename_i b a r; exact ⟨a, b, r, rfl, h⟩
  · cases h
theorem mzRem_i (h : mzRem k lv st H c s = some q) : ∃ a b r, st = .int b :: .int a :: r ∧ ¬ b = 0 ∧ k lv (.int (a - a / b * b) :: r) H c s = some q := by
  unfold mzRem at h; split at h
  · rename_i b a r; obtain ⟨h1, h2⟩ := z_bif2 h; exact ⟨a, b, r, rfl, of_decide_eq_false h1, h2⟩
  · cases h
theorem mzL2_i {g : Int64 → Int64 → Int64} (h : mzL2 g k lv st H c s = some q) : ∃ a b r, st = .long b :: .long a :: r ∧ k lv (.long (g a b) :: r) H c s = some q := by
  unfold mzL2 at h; split at h
  · rename_i b a r; exact ⟨a, b, r, rfl, h⟩
  · cases h
theorem mzLsh_i {g : Int64 → Int32 → Int64} (h : mzLsh g k lv st H c s = some q) : ∃ a b r, st = .int b :: .long a :: r ∧ k lv (.long (g a b) :: r) H c s = some q := by
  unfold mzLsh at h; split at h
  · rename_i b a r; exact ⟨a, b, r, rfl, h⟩
  · cases h
theorem mzLcmp_i (h : mzLcmp k lv st H c s = some q) : ∃ a b r, st = .long b :: .long a :: r ∧ k lv (.int (lg_cmp a b) :: r) H c s = some q := by
  unfold mzLcmp at h; split at h
  · rename_i b a r; exact ⟨a, b, r, rfl, h⟩
  · cases h
theorem mzI1_i {g : Int32 → Value} (h : mzI1 g k lv st H c s = some q) : ∃ a r, st = .int a :: r ∧ k lv (g a :: r) H c s = some q := by
  unfold mzI1 at h; split at h
  · rename_i a r; exact ⟨a, r, rfl, h⟩
  · cases h
theorem mzL1_i {g : Int64 → Value} (h : mzL1 g k lv st H c s = some q) : ∃ a r, st = .long a :: r ∧ k lv (g a :: r) H c s = some q := by
  unfold mzL1 at h; split at h
  · rename_i a r; exact ⟨a, r, rfl, h⟩
  · cases h
theorem mzDup_i (h : mzDup k lv st H c s = some q) : ∃ a r, st = a :: r ∧ a.category = 1 ∧ k lv (a :: a :: r) H c s = some q := by
  unfold mzDup at h; split at h
  · rename_i a r; obtain ⟨h1, h2⟩ := z_bif h; exact ⟨a, r, rfl, Nat.eq_of_beq_eq_true h1, h2⟩
  · cases h
theorem mzPop_i (h : mzPop k lv st H c s = some q) : ∃ a r, st = a :: r ∧ a.category = 1 ∧ k lv r H c s = some q := by
  unfold mzPop at h; split at h
  · rename_i a r; obtain ⟨h1, h2⟩ := z_bif h; exact ⟨a, r, rfl, Nat.eq_of_beq_eq_true h1, h2⟩
  · cases h
theorem mzDup2_i (h : mzDup2 k lv st H c s = some q) : ∃ a b r, st = a :: b :: r ∧ a.category = 1 ∧ b.category = 1 ∧ k lv (a :: b :: a :: b :: r) H c s = some q := by
  unfold mzDup2 at h; split at h
  · rename_i a b r; obtain ⟨h1, h2⟩ := z_bif h; simp only [Bool.and_eq_true] at h1; exact ⟨a, b, r, rfl, Nat.eq_of_beq_eq_true h1.1, Nat.eq_of_beq_eq_true h1.2, h2⟩
  · cases h
theorem z_cond {a : Bool} {x y : mzR} (h : (bif a then x else y) = some q) : (a = true ∧ x = some q) ∨ (a = false ∧ y = some q) := by
  cases a with
  | true => exact Or.inl ⟨rfl, h⟩
  | false => exact Or.inr ⟨rfl, h⟩
theorem mzIf_i {o : ClassFile.Cond} (h : mzIf o kt kf lv st H c s = some q) : ∃ a r, st = .int a :: r ∧ ((mzCnd o a 0 = true → kt lv r H c s = some q) ∧ (mzCnd o a 0 = false → kf lv r H c s = some q)) := by
  unfold mzIf at h; split at h
  · rename_i a r; refine ⟨a, r, rfl, ?_⟩
    rcases z_cond h with ⟨h1, h2⟩ | ⟨h1, h2⟩ <;> rw [h1]
    · exact ⟨fun _ => h2, (fun h => by cases h)⟩
    · exact ⟨(fun h => by cases h), fun _ => h2⟩
  · cases h
theorem mzIf2_i {o : ClassFile.Cond} (h : mzIf2 o kt kf lv st H c s = some q) : ∃ a b r, st = .int b :: .int a :: r ∧ ((mzCnd o a b = true → kt lv r H c s = some q) ∧ (mzCnd o a b = false → kf lv r H c s = some q)) := by
  unfold mzIf2 at h; split at h
  · rename_i b a r; refine ⟨a, b, r, rfl, ?_⟩
    rcases z_cond h with ⟨h1, h2⟩ | ⟨h1, h2⟩ <;> rw [h1]
    · exact ⟨fun _ => h2, (fun h => by cases h)⟩
    · exact ⟨(fun h => by cases h), fun _ => h2⟩
  · cases h
theorem mzSw_i {lo hi : Int} {ts : List Nat} {kd : mzK} {kq : Nat → mzK} (h : mzSw lo hi ts kd kq lv st H c s = some q) : ∃ a r, st = .int a :: r ∧ (((a.toInt < lo ∨ hi < a.toInt) ∧ kd lv r H c s = some q) ∨ (¬ a.toInt < lo ∧ ¬ hi < a.toInt ∧ ∃ b, ts[(a.toInt - lo).toNat]? = some b ∧ kq b lv r H c s = some q)) := by
  unfold mzSw at h; split at h
  · rename_i a r; refine ⟨a, r, rfl, ?_⟩
    rcases z_cond h with ⟨h1, h2⟩ | ⟨h1, h2⟩
    · simp only [Bool.or_eq_true, decide_eq_true_eq] at h1
      exact Or.inl ⟨h1, h2⟩
    · simp only [Bool.or_eq_false_iff, decide_eq_false_iff_not] at h1
      split at h2
      · rename_i b e; rw [mzNth_eq] at e; exact Or.inr ⟨h1.1, h1.2, b, e, h2⟩
      · cases h2
  · cases h
theorem mzGf_i {ci f : Nat} (h : mzGf ci f k lv st H c s = some q) : ∃ a r fs v, st = .ref a :: r ∧ H[a]? = some (.inr (ci, fs)) ∧ fs[f]? = some v ∧ k lv (v :: r) H c s = some q := by
  unfold mzGf at h; split at h
  · rename_i a r; split at h
    · rename_i d fs e; obtain ⟨h1, h2⟩ := z_bif h
      split at h2
      · rename_i v e2
        have hd := Nat.eq_of_beq_eq_true h1
        subst hd
        rw [mzNth_eq] at e e2
        exact ⟨a, r, fs, v, rfl, e, e2, h2⟩
      · cases h2
    · cases h
  · cases h
theorem mzPf_i {ci f t : Nat} (h : mzPf ci f t k lv st H c s = some q) : ∃ a r fs v, st = v :: .ref a :: r ∧ H[a]? = some (.inr (ci, fs)) ∧ f < fs.length ∧ mzFit t v = true ∧ k lv r (H.set a (.inr (ci, fs.set f v))) c s = some q := by
  unfold mzPf at h; split at h
  · rename_i v a r; split at h
    · rename_i d fs e; obtain ⟨h1, h2⟩ := z_bif h
      simp only [Bool.and_eq_true] at h1
      have hd := Nat.eq_of_beq_eq_true h1.1
      subst hd
      rw [mzNth_eq] at e
      rw [mzSet_eq, mzSet_eq] at h2
      exact ⟨a, r, fs, v, rfl, e, Nat.blt_eq.mp h1.2.1, h1.2.2, h2⟩
    · cases h
  · cases h
theorem mzIx_i {l : List Int32} {i v : Int32} (h : mzIx l i = some v) : vp_in i l.length ∧ v = l.getD i.toNatClampNeg 0 := by
  unfold mzIx at h
  obtain ⟨h1, h2⟩ := z_bif2 h
  rw [mzNth_eq] at h2
  have hl := (List.getElem?_eq_some_iff.mp h2).1
  refine ⟨fun hh => ?_, ?_⟩
  · rcases hh with hh | hh
    · exact of_decide_eq_false h1 hh
    · omega
  · rw [List.getD_eq_getElem?_getD, h2]; rfl
theorem mzAl_i {b : Bool} (h : mzAl b k lv st H c s = some q) : ∃ i a r d l, st = .int i :: .ref a :: r ∧ H[a]? = some (.inl (d, l)) ∧ Bool.xor b (Nat.beq d 0) = true ∧ vp_in i l.length ∧ k lv (.int (l.getD i.toNatClampNeg 0) :: r) H c s = some q := by
  unfold mzAl at h; split at h
  · rename_i i a r; split at h
    · rename_i d l e; obtain ⟨h1, h2⟩ := z_bif h
      split at h2
      · rename_i v e2
        obtain ⟨h3, h4⟩ := mzIx_i e2
        subst h4
        rw [mzNth_eq] at e
        exact ⟨i, a, r, d, l, rfl, e, h1, h3, h2⟩
      · cases h2
    · cases h
  · cases h
theorem mzAs_i {b : Bool} (h : mzAs b k lv st H c s = some q) : ∃ x i a r d l, st = .int x :: .int i :: .ref a :: r ∧ H[a]? = some (.inl (d, l)) ∧ Bool.xor b (Nat.beq d 0) = true ∧ vp_in i l.length ∧ k lv r (H.set a (.inl (d, l.set i.toNatClampNeg (vp_nar (mzTy d) x)))) c s = some q := by
  unfold mzAs at h; split at h
  · rename_i x i a r; split at h
    · rename_i d l e; obtain ⟨h1, h2⟩ := z_bif h
      split at h2
      · rename_i v e2
        obtain ⟨h3, -⟩ := mzIx_i e2
        rw [mzNth_eq] at e
        rw [mzSet_eq, mzSet_eq] at h2
        exact ⟨x, i, a, r, d, l, rfl, e, h1, h3, h2⟩
      · cases h2
    · cases h
  · cases h
theorem mzLen_i (h : mzLen k lv st H c s = some q) : ∃ a r d l, st = .ref a :: r ∧ H[a]? = some (.inl (d, l)) ∧ k lv (.int (Int32.ofNat l.length) :: r) H c s = some q := by
  unfold mzLen at h; split at h
  · rename_i a r; split at h
    · rename_i d l e; rw [mzNth_eq] at e; exact ⟨a, r, d, l, rfl, e, h⟩
    · cases h
  · cases h
theorem mzNewa_i {d : Nat} (h : mzNewa d k lv st H c s = some q) : ∃ n r, st = .int n :: r ∧ ¬ n < 0 ∧ 1 ≤ c ∧ n.toNatClampNeg ≤ s ∧ n.toNatClampNeg ≤ 65536 ∧ k lv (.ref H.length :: r) (H ++ [.inl (d, List.replicate n.toNatClampNeg 0)]) (c - 1) (s - n.toNatClampNeg) = some q := by
  unfold mzNewa at h; split at h
  · rename_i n r; obtain ⟨h1, h2⟩ := z_bif2 h
    obtain ⟨h3, h4⟩ := z_bif h2
    simp only [Bool.and_eq_true] at h3
    exact ⟨n, r, rfl, of_decide_eq_false h1, Nat.le_of_ble_eq_true h3.1, Nat.le_of_ble_eq_true h3.2.1, Nat.le_of_ble_eq_true h3.2.2, h4⟩
  · cases h
theorem mzNew_i {ci : Nat} {fs : List Value} (h : mzNew ci fs k lv st H c s = some q) : 1 ≤ c ∧ fs.length ≤ s ∧ k lv (.ref H.length :: st) (H ++ [.inr (ci, fs)]) (c - 1) (s - fs.length) = some q := by
  unfold mzNew at h
  obtain ⟨h3, h4⟩ := z_bif h
  simp only [Bool.and_eq_true] at h3
  exact ⟨Nat.le_of_ble_eq_true h3.1, Nat.le_of_ble_eq_true h3.2, h4⟩
theorem mzInv_i {g : List Value → mzH → Bool} {nl : Nat} {ca : mzK} {na mc ms : Nat} (h : mzInv g nl ca na mc ms k lv st H c s = some q) : g st H = true ∧ na ≤ st.length ∧ mzWd (st.drop na) ≤ 8 ∧ mc ≤ c ∧ ms ≤ s ∧ mzWd (st.take na) ≤ nl ∧ ∃ o H1, ca (lv_args 0 (st.take na).reverse) [] H mc ms = some (o, H1) ∧ k lv (o.toList ++ st.drop na) H1 (c - mc) (s - ms) = some q := by
  unfold mzInv at h
  obtain ⟨h1, h2⟩ := z_bif h
  simp only [Bool.and_eq_true] at h1
  obtain ⟨a1, a2, a3, a4, a5, a6⟩ := h1
  refine ⟨a1, Nat.le_of_ble_eq_true a2, Nat.le_of_ble_eq_true a3, Nat.le_of_ble_eq_true a4, Nat.le_of_ble_eq_true a5, Nat.le_of_ble_eq_true a6, ?_⟩
  split at h2
  · rename_i o H1 e; exact ⟨o, H1, e, h2⟩
  · cases h2
theorem mzRcv_i {na ci : Nat} (h : mzRcv na ci st H = true) : ∃ a fs, st[na - 1]? = some (.ref a) ∧ H[a]? = some (.inr (ci, fs)) := by
  unfold mzRcv at h; split at h
  · rename_i a e; split at h
    · rename_i d fs e2
      have hd := Nat.eq_of_beq_eq_true h
      subst hd
      rw [mzNth_eq] at e e2
      exact ⟨a, fs, e, e2⟩
    · cases h
  · cases h
theorem mzAcp_i (h : mzAcp k lv st H c s = some q) : ∃ n dp a sp a0 r f g, st = .int n :: .int dp :: .ref a :: .int sp :: .ref a0 :: r ∧ H[a0]? = some (.inl (0, f)) ∧ H[a]? = some (.inl (0, g)) ∧ ¬ sp < 0 ∧ ¬ dp < 0 ∧ ¬ n < 0 ∧ sp.toNatClampNeg + n.toNatClampNeg ≤ f.length ∧ dp.toNatClampNeg + n.toNatClampNeg ≤ g.length ∧ mzWd r ≤ 8 ∧ k lv r (H.set a (.inl (0, mzCpy f g sp.toNatClampNeg dp.toNatClampNeg n.toNatClampNeg))) c s = some q := by
  unfold mzAcp at h; split at h
  · rename_i n dp a sp a0 r; split at h
    · rename_i f g e1 e2
      obtain ⟨h1, h2⟩ := z_bif2 h
      obtain ⟨h3, h4⟩ := z_bif h2
      simp only [Bool.or_eq_false_iff, decide_eq_false_iff_not] at h1
      simp only [Bool.and_eq_true] at h3
      rw [mzNth_eq] at e1 e2
      rw [mzSet_eq] at h4
      exact ⟨n, dp, a, sp, a0, r, f, g, rfl, e1, e2, h1.1, h1.2.1, h1.2.2, Nat.le_of_ble_eq_true h3.1, Nat.le_of_ble_eq_true h3.2.1, Nat.le_of_ble_eq_true h3.2.2, h4⟩
    · cases h
  · cases h
theorem mzMm_i {g : Int32 → Int32 → Int32} (h : mzMm g k lv st H c s = some q) : ∃ a b r, st = .int b :: .int a :: r ∧ mzWd r ≤ 8 ∧ k lv (.int (g a b) :: r) H c s = some q := by
  unfold mzMm at h; split at h
  · rename_i b a r; obtain ⟨h1, h2⟩ := z_bif h; exact ⟨a, b, r, rfl, Nat.le_of_ble_eq_true h1, h2⟩
  · cases h
theorem mzObi_i (h : mzObi k lv st H c s = some q) : ∃ a r, st = .ref a :: r ∧ mzWd r ≤ 8 ∧ k lv r H c s = some q := by
  unfold mzObi at h; split at h
  · rename_i a r; obtain ⟨h1, h2⟩ := z_bif h; exact ⟨a, r, rfl, Nat.le_of_ble_eq_true h1, h2⟩
  · cases h
theorem mzIret_i {b : Nat} (h : mzIret b lv st H c s = some q) : ∃ v, st = [.int v] ∧ q = (some (.int v), H) ∧ (b = 0 ∨ v = 0 ∨ v = 1) := by
  unfold mzIret at h; split at h
  · rename_i v; split at h
    · exact ⟨v, rfl, (Option.some.inj h).symm, Or.inl rfl⟩
    · obtain ⟨h1, h2⟩ := z_bif h
      simp only [Bool.or_eq_true, decide_eq_true_eq] at h1
      exact ⟨v, rfl, (Option.some.inj h2).symm, Or.inr h1⟩
  · cases h
theorem mzLret_i (h : mzLret lv st H c s = some q) : ∃ v, st = [.long v] ∧ q = (some (.long v), H) := by
  unfold mzLret at h; split at h
  · rename_i v; exact ⟨v, rfl, (Option.some.inj h).symm⟩
  · cases h
theorem mzAret_i (h : mzAret lv st H c s = some q) : ∃ v, st = [.ref v] ∧ q = (some (.ref v), H) := by
  unfold mzAret at h; split at h
  · rename_i v; exact ⟨v, rfl, (Option.some.inj h).symm⟩
  · cases h
theorem mzVret_i (h : mzVret lv st H c s = some q) : st = [] ∧ q = (none, H) := by
  unfold mzVret at h; split at h
  · exact ⟨rfl, (Option.some.inj h).symm⟩
  · cases h
end
end
section
/-! THE MINI MACHINE'S STATE AGAINST THE MACHINE'S: values by the cells' addresses -/
def zad (ws : va_W) : List Nat := ws.map Prod.fst
theorem zad_at {ws : va_W} {k a : Nat} (h : (zad ws)[k]? = some a) : ∃ e, ws[k]? = some (a, e) := by
  unfold zad at h
  rw [List.getElem?_map] at h
  cases e : ws[k]? with
  | none => rw [e] at h; cases h
  | some q =>
    rw [e] at h
    obtain ⟨b, x⟩ := q
    simp only [Option.map_some, Option.some.injEq] at h
    exact ⟨x, by rw [h]⟩
theorem zad_of {ws : va_W} {k a : Nat} {e : va_E} (h : ws[k]? = some (a, e)) : (zad ws)[k]? = some a := by
  unfold zad
  rw [List.getElem?_map, h]
  rfl
theorem zad_set {ws : va_W} {k a : Nat} {e e' : va_E} (h : ws[k]? = some (a, e)) : zad (ws.set k (a, e')) = zad ws := by
  unfold zad
  apply List.ext_getElem?
  intro i
  simp only [List.getElem?_map, List.getElem?_set]
  by_cases hi : k = i
  · subst hi
    obtain ⟨hl, he⟩ := List.getElem?_eq_some_iff.mp h
    simp [hl, he]
  · simp [hi]
def zrV (ad : List Nat) (v w : Value) : Prop := match v with
  | .ref k => ∃ a, ad[k]? = some a ∧ w = .ref a
  | v => w = v
def zrL (ad : List Nat) : List Value → List Value → Prop
  | [], w => w = []
  | v :: vs, w => ∃ x xs, w = x :: xs ∧ zrV ad v x ∧ zrL ad vs xs
def zrM (ad : List Nat) : mzL → mzL → Prop
  | [], w => w = []
  | q :: vs, w => ∃ x xs, w = (q.1, x) :: xs ∧ zrV ad q.2 x ∧ zrM ad vs xs
def zrO (ad : List Nat) (v w : Option Value) : Prop := match v with
  | none => w = none
  | some v => ∃ x, w = some x ∧ zrV ad v x
def zrC (ad : List Nat) (tys : List (ClassId × FieldType)) (c : mzC) (e : va_E) : Prop := match c with
  | .inl (d, l) => ∃ cA : ClassId, (cA, mzTy d) ∈ tys ∧ e = .inl (cA, l.length, .inl (fun k => l.getD k 0))
  | .inr (ci, fs) => ∃ fs', e = .inr (ci, fs') ∧ zrL ad fs fs'
def zrH (tys : List (ClassId × FieldType)) (H : mzH) (ws : va_W) : Prop := ws.length = H.length ∧ ∀ (k : Nat) (c : mzC), H[k]? = some c → ∃ (a : Nat) (e : va_E), ws[k]? = some (a, e) ∧ zrC (zad ws) tys c e
theorem zrV_cat {ad : List Nat} {v w : Value} (h : zrV ad v w) : w.category = v.category := by
  cases v with
  | ref k =>
    obtain ⟨a, -, rfl⟩ := h
    rfl
  | _ =>
    have e : w = _ := h
    rw [e]
theorem zpre_at {ad ad' : List Nat} (h : ad <+: ad') {k a : Nat} (hk : ad[k]? = some a) : ad'[k]? = some a := by
  obtain ⟨t, rfl⟩ := h
  rw [List.getElem?_append_left (List.getElem?_eq_some_iff.mp hk).1]
  exact hk
theorem zrV_mono {ad ad' : List Nat} (h : ad <+: ad') {v w : Value} (hv : zrV ad v w) : zrV ad' v w := by
  cases v with
  | ref k =>
    obtain ⟨a, h1, h2⟩ := hv
    exact ⟨a, zpre_at h h1, h2⟩
  | _ => exact hv
theorem zrL_mono {ad ad' : List Nat} (h : ad <+: ad') : ∀ {v w : List Value}, zrL ad v w → zrL ad' v w
  | [], _, hv => hv
  | _ :: _, _, ⟨x, xs, e, h1, h2⟩ => ⟨x, xs, e, zrV_mono h h1, zrL_mono h h2⟩
theorem zrM_mono {ad ad' : List Nat} (h : ad <+: ad') : ∀ {v w : mzL}, zrM ad v w → zrM ad' v w
  | [], _, hv => hv
  | _ :: _, _, ⟨x, xs, e, h1, h2⟩ => ⟨x, xs, e, zrV_mono h h1, zrM_mono h h2⟩
theorem zrC_mono {ad ad' : List Nat} {tys tys' : List (ClassId × FieldType)} (h : ad <+: ad') (ht : ∀ q ∈ tys, q ∈ tys') {c : mzC} {e : va_E} (hc : zrC ad tys c e) : zrC ad' tys' c e := by
  cases c with
  | inl x =>
    obtain ⟨cA, h1, h2⟩ := hc
    exact ⟨cA, ht _ h1, h2⟩
  | inr x =>
    obtain ⟨fs, h1, h2⟩ := hc
    exact ⟨fs, h1, zrL_mono h h2⟩
theorem zrL_len {ad : List Nat} : ∀ {v w : List Value}, zrL ad v w → w.length = v.length
  | [], _, h => by rw [show _ = [] from h]
  | _ :: _, _, ⟨x, xs, e, _, h2⟩ => by rw [e]; simp [zrL_len h2]
theorem zrL_at {ad : List Nat} : ∀ {v w : List Value} {k : Nat} {a : Value}, zrL ad v w → v[k]? = some a → ∃ b, w[k]? = some b ∧ zrV ad a b
  | [], _, k, a, _, hk => by simp at hk
  | v :: vs, _, 0, a, ⟨x, xs, e, h1, h2⟩, hk => by
    simp only [List.getElem?_cons_zero, Option.some.injEq] at hk
    subst hk; subst e
    exact ⟨x, rfl, h1⟩
  | v :: vs, _, k + 1, a, ⟨x, xs, e, h1, h2⟩, hk => by
    simp only [List.getElem?_cons_succ] at hk
    subst e
    simp only [List.getElem?_cons_succ]
    exact zrL_at h2 hk
theorem zrL_set {ad : List Nat} : ∀ {v w : List Value} {k : Nat} {a b : Value}, zrL ad v w → zrV ad a b → zrL ad (v.set k a) (w.set k b)
  | [], _, k, a, b, h, _ => by rw [show _ = [] from h]; simp [zrL]
  | v :: vs, _, 0, a, b, ⟨x, xs, e, h1, h2⟩, hk => by
    subst e
    exact ⟨b, xs, rfl, hk, h2⟩
  | v :: vs, _, k + 1, a, b, ⟨x, xs, e, h1, h2⟩, hk => by
    subst e
    exact ⟨x, xs.set k b, rfl, h1, zrL_set h2 hk⟩
theorem zrL_take {ad : List Nat} : ∀ {v w : List Value} (n : Nat), zrL ad v w → zrL ad (v.take n) (w.take n)
  | _, _, 0, _ => by simp [zrL]
  | [], _, n + 1, h => by rw [show _ = [] from h]; simp [zrL]
  | v :: vs, _, n + 1, ⟨x, xs, e, h1, h2⟩ => by
    subst e
    exact ⟨x, xs.take n, rfl, h1, zrL_take n h2⟩
theorem zrL_drop {ad : List Nat} : ∀ {v w : List Value} (n : Nat), zrL ad v w → zrL ad (v.drop n) (w.drop n)
  | _, _, 0, h => by simpa using h
  | [], _, n + 1, h => by rw [show _ = [] from h]; simp [zrL]
  | v :: vs, _, n + 1, ⟨x, xs, e, h1, h2⟩ => by
    subst e
    simpa using zrL_drop n h2
theorem zrL_app {ad : List Nat} : ∀ {v w v2 w2 : List Value}, zrL ad v w → zrL ad v2 w2 → zrL ad (v ++ v2) (w ++ w2)
  | [], _, _, _, h, h2 => by rw [show _ = [] from h]; simpa using h2
  | v :: vs, _, _, _, ⟨x, xs, e, h1, h2⟩, h3 => by
    subst e
    exact ⟨x, xs ++ _, rfl, h1, zrL_app h2 h3⟩
theorem zrL_rev {ad : List Nat} : ∀ {v w : List Value}, zrL ad v w → zrL ad v.reverse w.reverse
  | [], _, h => by rw [show _ = [] from h]; simp [zrL]
  | v :: vs, _, ⟨x, xs, e, h1, h2⟩ => by
    subst e
    rw [List.reverse_cons, List.reverse_cons]
    exact zrL_app (zrL_rev h2) ⟨x, [], rfl, h1, rfl⟩
theorem zrL_cats {ad : List Nat} : ∀ {v w : List Value}, zrL ad v w → (w.map fun v => v.category).sum = mzWd v
  | [], _, h => by rw [show _ = [] from h]; rfl
  | v :: vs, _, ⟨x, xs, e, h1, h2⟩ => by
    subst e
    have := zrL_cats h2
    simp only [List.map_cons, List.sum_cons, mzWd] at this ⊢
    rw [this, zrV_cat h1]
theorem zrM_mem {ad : List Nat} {i : Nat} {v : Value} : ∀ {l l' : mzL}, zrM ad l l' → (i, v) ∈ l → ∃ w, zrV ad v w ∧ (i, w) ∈ l'
  | [], _, _, h => by cases h
  | q :: l, _, ⟨x, xs, e, h1, h2⟩, h => by
    subst e
    rcases List.mem_cons.mp h with h | h
    · subst h
      exact ⟨x, h1, List.mem_cons_self⟩
    · obtain ⟨w, a, b⟩ := zrM_mem h2 h
      exact ⟨w, a, List.mem_cons_of_mem _ b⟩
theorem zrM_filter {ad : List Nat} (p : Nat × Value → Bool) (hp : ∀ (k : Nat) (v w : Value), w.category = v.category → p (k, v) = p (k, w)) : ∀ {l l' : mzL}, zrM ad l l' → zrM ad (l.filter p) (l'.filter p)
  | [], _, h => by rw [show _ = [] from h]; simp [zrM]
  | q :: l, _, ⟨x, xs, e, h1, h2⟩ => by
    subst e
    have e1 : p q = p (q.1, x) := hp q.1 q.2 x (zrV_cat h1)
    have h3 := zrM_filter p hp h2
    simp only [List.filter_cons, ← e1]
    split
    · exact ⟨x, _, rfl, h1, h3⟩
    · exact h3
theorem zrM_args {ad : List Nat} : ∀ {vs ws : List Value} (i : Nat), zrL ad vs ws → zrM ad (lv_args i vs) (lv_args i ws)
  | [], _, i, h => by rw [show _ = [] from h]; simp [lv_args, zrM]
  | v :: vs, _, i, ⟨x, xs, e, h1, h2⟩ => by
    subst e
    simp only [lv_args, zrV_cat h1]
    exact ⟨x, _, rfl, h1, zrM_args _ h2⟩
theorem zsl_len (vs : List Value) : (lg_sl vs).length = (vs.map fun v => v.category).sum := by
  induction vs with
  | nil => rfl
  | cons v vs ih =>
    have e : lg_sl (v :: vs) = (if v.category = 2 then [.val v, .second] else [.val v]) ++ lg_sl vs := rfl
    rw [e, List.length_append, ih, List.map_cons, List.sum_cons]
    cases v <;> rfl
theorem zrH_get {tys : List (ClassId × FieldType)} {H : mzH} {ws : va_W} (h : zrH tys H ws) {k a : Nat} {c : mzC} (hk : H[k]? = some c) (ha : (zad ws)[k]? = some a) : ∃ e, ws[k]? = some (a, e) ∧ zrC (zad ws) tys c e := by
  obtain ⟨b, e, h1, h2⟩ := h.2 k c hk
  have h3 := zad_of h1
  rw [ha] at h3
  cases h3
  exact ⟨e, h1, h2⟩
theorem zrH_set {tys : List (ClassId × FieldType)} {H : mzH} {ws : va_W} (h : zrH tys H ws) {k a : Nat} {e0 e : va_E} {c : mzC} (hk : ws[k]? = some (a, e0)) (hc : zrC (zad ws) tys c e) : zrH tys (H.set k c) (ws.set k (a, e)) := by
  refine ⟨by simp [h.1], fun i d hi => ?_⟩
  rw [zad_set hk]
  have hl := (List.getElem?_eq_some_iff.mp hk).1
  by_cases hik : k = i
  · subst hik
    rw [List.getElem?_set_self (by rw [← h.1]; exact hl)] at hi
    cases hi
    exact ⟨a, e, by rw [List.getElem?_set_self hl], hc⟩
  · rw [List.getElem?_set_ne hik] at hi
    obtain ⟨b, e2, h1, h2⟩ := h.2 i d hi
    exact ⟨b, e2, by rw [List.getElem?_set_ne hik]; exact h1, h2⟩
theorem zad_push (ws : va_W) (q : Nat) (e : va_E) : zad (ws ++ [(q, e)]) = zad ws ++ [q] := by simp [zad]
theorem zrH_push {tys tys' : List (ClassId × FieldType)} {H : mzH} {ws : va_W} (h : zrH tys H ws) (ht : ∀ q ∈ tys, q ∈ tys') {q : Nat} {e : va_E} {c : mzC} (hc : zrC (zad ws ++ [q]) tys' c e) : zrH tys' (H ++ [c]) (ws ++ [(q, e)]) := by
  refine ⟨by simp [h.1], fun i d hi => ?_⟩
  rw [zad_push]
  by_cases hl : i < H.length
  · rw [List.getElem?_append_left hl] at hi
    obtain ⟨b, e2, h1, h2⟩ := h.2 i d hi
    exact ⟨b, e2, by rw [List.getElem?_append_left (by rw [h.1]; exact hl)]; exact h1, zrC_mono (List.prefix_append _ _) ht h2⟩
  · rw [List.getElem?_append_right (by omega)] at hi
    have hz : i - H.length < 1 := (List.getElem?_eq_some_iff.mp hi).1
    have hi0 : i = H.length := by omega
    subst hi0
    rw [Nat.sub_self] at hi
    cases hi
    exact ⟨q, e, by rw [← h.1, List.getElem?_append_right (Nat.le_refl _), Nat.sub_self]; rfl, hc⟩
theorem zad_len {tys : List (ClassId × FieldType)} {H : mzH} {ws : va_W} (h : zrH tys H ws) (q : Nat) (e : va_E) : (zad (ws ++ [(q, e)]))[H.length]? = some q := by
  rw [zad_push, ← h.1, List.getElem?_append_right (by simp [zad])]
  simp [zad]
/-- lists and the kit's functions -/
theorem z_upd {l : List Int32} {i : Nat} (x : Int32) (h : i < l.length) : (fun k => (l.set i x).getD k 0) = upd (fun k => l.getD k 0) i x := by
  funext k
  simp only [upd, List.getD_eq_getElem?_getD, List.getElem?_set]
  by_cases hk : k = i
  · subst hk
    simp [h]
  · simp [hk, Ne.symm hk]
theorem z_cpy {f g : List Int32} {sp dp n : Nat} (h1 : sp + n ≤ f.length) (h2 : dp + n ≤ g.length) : (fun k => (mzCpy f g sp dp n).getD k 0) = va_cpy (fun k => f.getD k 0) (fun k => g.getD k 0) sp dp n := by
  funext k
  simp only [va_cpy, mzCpy, List.getD_eq_getElem?_getD]
  have e1 : (g.take dp).length = dp := by rw [List.length_take]; omega
  have e2 : ((f.drop sp).take n).length = n := by rw [List.length_take, List.length_drop]; omega
  by_cases c1 : k < dp
  · rw [List.getElem?_append_left (by rw [e1]; exact c1), List.getElem?_take_of_lt c1, if_neg (by omega)]
  · rw [List.getElem?_append_right (by omega), e1]
    by_cases c2 : k < dp + n
    · rw [List.getElem?_append_left (by omega), List.getElem?_take_of_lt (by omega), List.getElem?_drop, if_pos ⟨by omega, c2⟩]
    · rw [List.getElem?_append_right (by omega), e2, List.getElem?_drop, if_neg (by omega)]
      congr 2
      omega
theorem z_cpyl {f g : List Int32} {sp dp n : Nat} (h1 : sp + n ≤ f.length) (h2 : dp + n ≤ g.length) : (mzCpy f g sp dp n).length = g.length := by
  simp only [mzCpy, List.length_append, List.length_take, List.length_drop]
  omega
end
