def mzNth {α : Type} : List α → Nat → Option α
  | [], _ => none
  | a :: _, 0 => some a
  | _ :: l, n + 1 => mzNth l n
theorem mzNth_eq {α : Type} : ∀ (l : List α) (n : Nat), mzNth l n = l[n]?
  | [], n => by simp [mzNth]
  | a :: l, 0 => by simp [mzNth]
  | a :: l, n + 1 => by simp [mzNth, mzNth_eq l n]
def mzSet {α : Type} : List α → Nat → α → List α
  | [], _, _ => []
  | _ :: l, 0, b => b :: l
  | a :: l, n + 1, b => a :: mzSet l n b
theorem mzSet_eq {α : Type} : ∀ (l : List α) (n : Nat) (b : α), mzSet l n b = l.set n b
  | [], n, b => by simp [mzSet]
  | a :: l, 0, b => by simp [mzSet]
  | a :: l, n + 1, b => by simp [mzSet, mzSet_eq l n b]
def mzGet : Nat → mzL → Option Value
  | _, [] => none
  | i, (k, v) :: r => bif Nat.beq k i then some v else mzGet i r
theorem mzGet_mem : ∀ {i : Nat} {l : mzL} {v : Value}, mzGet i l = some v → (i, v) ∈ l
  | i, [], v, h => by simp [mzGet] at h
  | i, (k, w) :: r, v, h => by
    unfold mzGet at h
    cases e : Nat.beq k i with
    | true =>
      rw [e] at h
      have hk : k = i := Nat.eq_of_beq_eq_true e
      simp only [cond_true, Option.some.injEq] at h
      subst hk; subst h
      exact List.mem_cons_self
    | false =>
      rw [e] at h
      simp only [cond_false] at h
      exact List.mem_cons_of_mem _ (mzGet_mem h)
def mzSt1 (i : Nat) (v : Value) (lv : mzL) : mzL := (i, v) :: lv.filter (fun q => !(q.1 == i) && !(q.1 + 1 == i && q.2.category == 2))
def mzSt2 (i : Nat) (v : Value) (lv : mzL) : mzL := (i, v) :: lv.filter (fun q => !(q.1 == i) && (!(q.1 == i + 1) && !(q.1 + 1 == i && q.2.category == 2)))
def mzWd (st : List Value) : Nat := (st.map fun v => v.category).sum
def mzPc : List mzO → Nat
  | [] => 0
  | q :: _ => q.1
def mzBlk (bl : mzB) (x : Nat) : List mzO := (mzNth bl x).getD []
def mzNo : mzK := fun _ _ _ _ _ => none
def mzPush (v : Value) (k : mzK) : mzK := fun lv st H c s => k lv (v :: st) H c s
def mzIld (i : Nat) (k : mzK) : mzK := fun lv st H c s => match mzGet i lv with
  | some (.int v) => k lv (.int v :: st) H c s
  | _ => none
def mzLld (i : Nat) (k : mzK) : mzK := fun lv st H c s => match mzGet i lv with
  | some (.long v) => k lv (.long v :: st) H c s
  | _ => none
def mzAld (i : Nat) (k : mzK) : mzK := fun lv st H c s => match mzGet i lv with
  | some (.ref v) => k lv (.ref v :: st) H c s
  | _ => none
def mzIst (n i : Nat) (k : mzK) : mzK := fun lv st H c s => match st with
  | .int v :: r => bif Nat.blt i n then k (mzSt1 i (.int v) lv) r H c s else none
  | _ => none
def mzAst (n i : Nat) (k : mzK) : mzK := fun lv st H c s => match st with
  | .ref v :: r => bif Nat.blt i n then k (mzSt1 i (.ref v) lv) r H c s else none
  | _ => none
def mzLst (n i : Nat) (k : mzK) : mzK := fun lv st H c s => match st with
  | .long v :: r => bif Nat.blt (i + 1) n then k (mzSt2 i (.long v) lv) r H c s else none
  | _ => none
def mzInc (n i : Nat) (d : Int) (k : mzK) : mzK := fun lv st H c s => match mzGet i lv with
  | some (.int v) => bif Nat.blt i n then k (mzSt1 i (.int (v + Int32.ofInt d)) lv) st H c s else none
  | _ => none
def mzI2 (g : Int32 → Int32 → Int32) (k : mzK) : mzK := fun lv st H c s => match st with
  | .int b :: .int a :: r => k lv (.int (g a b) :: r) H c s
  | _ => none
def mzRem (k : mzK) : mzK := fun lv st H c s => match st with
  | .int b :: .int a :: r => bif decide (b = 0) then none else k lv (.int (a - a / b * b) :: r) H c s
  | _ => none
def mzL2 (g : Int64 → Int64 → Int64) (k : mzK) : mzK := fun lv st H c s => match st with
  | .long b :: .long a :: r => k lv (.long (g a b) :: r) H c s
  | _ => none
def mzLsh (g : Int64 → Int32 → Int64) (k : mzK) : mzK := fun lv st H c s => match st with
  | .int b :: .long a :: r => k lv (.long (g a b) :: r) H c s
  | _ => none
def mzLcmp (k : mzK) : mzK := fun lv st H c s => match st with
  | .long b :: .long a :: r => k lv (.int (lg_cmp a b) :: r) H c s
  | _ => none
def mzI1 (g : Int32 → Value) (k : mzK) : mzK := fun lv st H c s => match st with
  | .int a :: r => k lv (g a :: r) H c s
  | _ => none
def mzL1 (g : Int64 → Value) (k : mzK) : mzK := fun lv st H c s => match st with
  | .long a :: r => k lv (g a :: r) H c s
  | _ => none
def mzDup (k : mzK) : mzK := fun lv st H c s => match st with
  | a :: r => bif Nat.beq a.category 1 then k lv (a :: a :: r) H c s else none
  | _ => none
def mzDup2 (k : mzK) : mzK := fun lv st H c s => match st with
  | a :: b :: r => bif Nat.beq a.category 1 && Nat.beq b.category 1 then k lv (a :: b :: a :: b :: r) H c s else none
  | _ => none
def mzPop (k : mzK) : mzK := fun lv st H c s => match st with
  | a :: r => bif Nat.beq a.category 1 then k lv r H c s else none
  | _ => none
def mzCnd (q : ClassFile.Cond) (a b : Int32) : Bool := match q with
  | .eq => decide (a = b)
  | .ne => !decide (a = b)
  | .lt => decide (a < b)
  | .ge => decide (b ≤ a)
  | .gt => decide (b < a)
  | .le => decide (a ≤ b)
def mzIf (q : ClassFile.Cond) (kt kf : mzK) : mzK := fun lv st H c s => match st with
  | .int a :: r => bif mzCnd q a 0 then kt lv r H c s else kf lv r H c s
  | _ => none
def mzIf2 (q : ClassFile.Cond) (kt kf : mzK) : mzK := fun lv st H c s => match st with
  | .int b :: .int a :: r => bif mzCnd q a b then kt lv r H c s else kf lv r H c s
  | _ => none
def mzSw (lo hi : Int) (ts : List Nat) (kd : mzK) (kt : Nat → mzK) : mzK := fun lv st H c s => match st with
  | .int a :: r => bif decide (a.toInt < lo) || decide (hi < a.toInt) then kd lv r H c s else match mzNth ts (a.toInt - lo).toNat with
    | some b => kt b lv r H c s
    | none => none
  | _ => none
def mzGf (ci f : Nat) (k : mzK) : mzK := fun lv st H c s => match st with
  | .ref a :: r => (match mzNth H a with
    | some (.inr (d, fs)) => bif Nat.beq d ci then (match mzNth fs f with
      | some v => k lv (v :: r) H c s
      | none => none) else none
    | _ => none)
  | _ => none
/-- may the value stand in a field: 0 an int, 1 a boolean, else a reference -/
def mzFit (t : Nat) (v : Value) : Bool := match t, v with
  | 0, .int _ => true
  | 1, .int b => decide (b = 0) || decide (b = 1)
  | 2, .ref _ => true
  | _, _ => false
def mzPf (ci f t : Nat) (k : mzK) : mzK := fun lv st H c s => match st with
  | v :: .ref a :: r => (match mzNth H a with
    | some (.inr (d, fs)) => bif Nat.beq d ci && (Nat.blt f fs.length && mzFit t v) then k lv r (mzSet H a (.inr (d, mzSet fs f v))) c s else none
    | _ => none)
  | _ => none
def mzIx (l : List Int32) (i : Int32) : Option Int32 := bif decide (i < 0) then none else mzNth l i.toNatClampNeg
def mzAl (b : Bool) (k : mzK) : mzK := fun lv st H c s => match st with
  | .int i :: .ref a :: r => (match mzNth H a with
    | some (.inl (d, l)) => bif Bool.xor b (Nat.beq d 0) then (match mzIx l i with
      | some v => k lv (.int v :: r) H c s
      | none => none) else none
    | _ => none)
  | _ => none
def mzTy (d : Nat) : FieldType := match d with
  | 0 => .int
  | 1 => .boolean
  | _ => .byte
def mzAs (b : Bool) (k : mzK) : mzK := fun lv st H c s => match st with
  | .int x :: .int i :: .ref a :: r => (match mzNth H a with
    | some (.inl (d, l)) => bif Bool.xor b (Nat.beq d 0) then (match mzIx l i with
      | some _ => k lv r (mzSet H a (.inl (d, mzSet l i.toNatClampNeg (vp_nar (mzTy d) x)))) c s
      | none => none) else none
    | _ => none)
  | _ => none
def mzLen (k : mzK) : mzK := fun lv st H c s => match st with
  | .ref a :: r => (match mzNth H a with
    | some (.inl (_, l)) => k lv (.int (Int32.ofNat l.length) :: r) H c s
    | _ => none)
  | _ => none
def mzNewa (d : Nat) (k : mzK) : mzK := fun lv st H c s => match st with
  | .int n :: r => bif decide (n < 0) then none else bif Nat.ble 1 c && (Nat.ble n.toNatClampNeg s && Nat.ble n.toNatClampNeg 65536) then k lv (.ref H.length :: r) (H ++ [.inl (d, List.replicate n.toNatClampNeg 0)]) (c - 1) (s - n.toNatClampNeg) else none
  | _ => none
def mzNew (ci : Nat) (fs : List Value) (k : mzK) : mzK := fun lv st H c s => bif Nat.ble 1 c && Nat.ble fs.length s then k lv (.ref H.length :: st) (H ++ [.inr (ci, fs)]) (c - 1) (s - fs.length) else none
def mzRcv (na ci : Nat) (st : List Value) (H : mzH) : Bool := match mzNth st (na - 1) with
  | some (.ref a) => (match mzNth H a with
    | some (.inr (d, _)) => Nat.beq d ci
    | _ => false)
  | _ => false
def mzInv (g : List Value → mzH → Bool) (nl : Nat) (callee : mzK) (na mc ms : Nat) (k : mzK) : mzK := fun lv st H c s =>
  bif g st H && (Nat.ble na st.length && (Nat.ble (mzWd (st.drop na)) 8 && (Nat.ble mc c && (Nat.ble ms s && Nat.ble (mzWd (st.take na)) nl)))) then
    (match callee (lv_args 0 (st.take na).reverse) [] H mc ms with
    | some (o, H1) => k lv (o.toList ++ st.drop na) H1 (c - mc) (s - ms)
    | none => none) else none
def mzCpy (f g : List Int32) (sp dp n : Nat) : List Int32 := g.take dp ++ ((f.drop sp).take n ++ g.drop (dp + n))
def mzAcp (k : mzK) : mzK := fun lv st H c s => match st with
  | .int n :: .int dp :: .ref a :: .int sp :: .ref a0 :: r => (match mzNth H a0, mzNth H a with
    | some (.inl (0, f)), some (.inl (0, g)) => bif decide (sp < 0) || (decide (dp < 0) || decide (n < 0)) then none else
        bif Nat.ble (sp.toNatClampNeg + n.toNatClampNeg) f.length && (Nat.ble (dp.toNatClampNeg + n.toNatClampNeg) g.length && Nat.ble (mzWd r) 8) then k lv r (mzSet H a (.inl (0, mzCpy f g sp.toNatClampNeg dp.toNatClampNeg n.toNatClampNeg))) c s else none
    | _, _ => none)
  | _ => none
def mzMm (g : Int32 → Int32 → Int32) (k : mzK) : mzK := fun lv st H c s => match st with
  | .int b :: .int a :: r => bif Nat.ble (mzWd r) 8 then k lv (.int (g a b) :: r) H c s else none
  | _ => none
def mzObi (k : mzK) : mzK := fun lv st H c s => match st with
  | .ref _ :: r => bif Nat.ble (mzWd r) 8 then k lv r H c s else none
  | _ => none
def mzIret (b : Nat) : mzK := fun _ st H _ _ => match st with
  | [.int v] => (match b with
    | 0 => some (some (.int v), H)
    | _ => bif decide (v = 0) || decide (v = 1) then some (some (.int v), H) else none)
  | _ => none
def mzLret : mzK := fun _ st H _ _ => match st with
  | [.long v] => some (some (.long v), H)
  | _ => none
def mzAret : mzK := fun _ st H _ _ => match st with
  | [.ref v] => some (some (.ref v), H)
  | _ => none
def mzVret : mzK := fun _ st H _ _ => match st with
  | [] => some (none, H)
  | _ => none
/-- one step: B the methods' blocks, D the fields of a new object, nL the method's locals -/
def mzStp (B : Nat → mzB) (N : Nat → Nat) (D : Nat → List Value) (ih : Nat → mzB → List mzO → mzK) (nL : Nat) (bl : mzB) (ops : List mzO) : mzK :=
  match ops with
  | [] => mzNo
  | (_, i, x, y, ts) :: r =>
    match i with
    | .nop => ih nL bl (mzBlk bl x)
    | .iconst n => mzPush (.int (Int32.ofInt n)) (ih nL bl r)
    | .bipush n => mzPush (.int (Int8.ofInt n).toInt32) (ih nL bl r)
    | .sipush n => mzPush (.int (Int16.ofInt n).toInt32) (ih nL bl r)
    | .lconst n => mzPush (.long (Int64.ofNat (n : Nat))) (ih nL bl r)
    | .ldc _ => (match ts with | [_] => mzPush (.int (Int32.ofNat x)) (ih nL bl r) | _ => mzNo)
    | .ldc2_w _ => (match ts with | [_] => mzPush (.long (Int64.ofNat x)) (ih nL bl r) | _ => mzNo)
    | .iload k => mzIld k (ih nL bl r)
    | .iload_n k => mzIld (k : Nat) (ih nL bl r)
    | .lload k => mzLld k (ih nL bl r)
    | .lload_n k => mzLld (k : Nat) (ih nL bl r)
    | .aload k => mzAld k (ih nL bl r)
    | .aload_n k => mzAld (k : Nat) (ih nL bl r)
    | .istore k => mzIst nL k (ih nL bl r)
    | .istore_n k => mzIst nL (k : Nat) (ih nL bl r)
    | .lstore k => mzLst nL k (ih nL bl r)
    | .lstore_n k => mzLst nL (k : Nat) (ih nL bl r)
    | .astore k => mzAst nL k (ih nL bl r)
    | .astore_n k => mzAst nL (k : Nat) (ih nL bl r)
    | .iinc k d => mzInc nL k d (ih nL bl r)
    | .iadd => mzI2 (fun a b => a + b) (ih nL bl r)
    | .isub => mzI2 (fun a b => a - b) (ih nL bl r)
    | .imul => mzI2 (fun a b => a * b) (ih nL bl r)
    | .irem => mzRem (ih nL bl r)
    | .iand => mzI2 (fun a b => a &&& b) (ih nL bl r)
    | .ior => mzI2 (fun a b => a ||| b) (ih nL bl r)
    | .ixor => mzI2 (fun a b => a ^^^ b) (ih nL bl r)
    | .ishl => mzI2 (fun a b => a <<< (b &&& 31)) (ih nL bl r)
    | .ishr => mzI2 (fun a b => a >>> (b &&& 31)) (ih nL bl r)
    | .iushr => mzI2 (fun a b => (a.toUInt32 >>> (b.toUInt32 &&& Int32.toUInt32 31)).toInt32) (ih nL bl r)
    | .ladd => mzL2 (fun a b => a + b) (ih nL bl r)
    | .lsub => mzL2 (fun a b => a - b) (ih nL bl r)
    | .land => mzL2 (fun a b => a &&& b) (ih nL bl r)
    | .lor => mzL2 (fun a b => a ||| b) (ih nL bl r)
    | .lshl => mzLsh (fun a b => a <<< (b.toInt64 &&& 63)) (ih nL bl r)
    | .lushr => mzLsh (fun a b => (a.toUInt64 >>> (b.toInt64.toUInt64 &&& Int64.toUInt64 63)).toInt64) (ih nL bl r)
    | .lcmp => mzLcmp (ih nL bl r)
    | .i2l => mzI1 (fun a => .long a.toInt64) (ih nL bl r)
    | .i2b => mzI1 (fun a => .int a.toInt8.toInt32) (ih nL bl r)
    | .l2i => mzL1 (fun a => .int a.toInt32) (ih nL bl r)
    | .dup => mzDup (ih nL bl r)
    | .dup2 => mzDup2 (ih nL bl r)
    | .pop => mzPop (ih nL bl r)
    | .goto _ => ih nL bl (mzBlk bl x)
    | .ifCond q _ => mzIf q (ih nL bl (mzBlk bl x)) (ih nL bl r)
    | .if_icmp q _ => mzIf2 q (ih nL bl (mzBlk bl x)) (ih nL bl r)
    | .tableswitch _ lo hi _ => mzSw lo hi ts (ih nL bl (mzBlk bl x)) (fun b => ih nL bl (mzBlk bl b))
    | .getfield _ => (match ts with | [_] => mzGf x y (ih nL bl r) | _ => mzNo)
    | .putfield _ => (match ts with | [t] => mzPf x y t (ih nL bl r) | _ => mzNo)
    | .iaload => mzAl false (ih nL bl r)
    | .baload => mzAl true (ih nL bl r)
    | .iastore => mzAs false (ih nL bl r)
    | .bastore => mzAs true (ih nL bl r)
    | .arraylength => mzLen (ih nL bl r)
    | .newarray _ => (match ts with | [_] => mzNewa x (ih nL bl r) | _ => mzNo)
    | .new _ => (match ts with | [_] => mzNew x (D x) (ih nL bl r) | _ => mzNo)
    | .invokevirtual _ => (match ts with | [na, mc, ms] => mzInv (mzRcv na y) (N x) (ih (N x) (B x) (mzBlk (B x) 0)) na mc ms (ih nL bl r) | _ => mzNo)
    | .invokestatic _ => (match ts with | [na, mc, ms] => mzInv (fun _ _ => true) (N x) (ih (N x) (B x) (mzBlk (B x) 0)) na mc ms (ih nL bl r) | [0] => mzAcp (ih nL bl r) | [1] => mzMm (fun a b => if a < b then b else a) (ih nL bl r) | [_] => mzMm (fun a b => if b < a then b else a) (ih nL bl r) | _ => mzNo)
    | .invokespecial _ => (match ts with | [na, mc, ms] => mzInv (mzRcv na y) (N x) (ih (N x) (B x) (mzBlk (B x) 0)) na mc ms (ih nL bl r) | [_] => mzObi (ih nL bl r) | _ => mzNo)
    | .ireturn => mzIret x
    | .lreturn => mzLret
    | .areturn => mzAret
    | .return_ => mzVret
    | _ => mzNo
def mzEx (B : Nat → mzB) (N : Nat → Nat) (D : Nat → List Value) (f : Nat) : Nat → mzB → List mzO → mzK :=
  Nat.rec (fun _ _ _ => mzNo) (fun _ ih => mzStp B N D ih) f
theorem mzEx_succ (B : Nat → mzB) (N : Nat → Nat) (D : Nat → List Value) (f : Nat) : mzEx B N D (f + 1) = mzStp B N D (mzEx B N D f) := rfl
