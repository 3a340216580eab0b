/-! WHEN A METHOD'S BLOCKS ARE ITS CODE: a check that the kernel runs -/
def zfr (j : Nat) : Nat := (zM j).2.2.2.2.2.1
def zlo (j : Nat) : Nat := (zM j).2.2.2.2.2.2.1
def zmc (j : Nat) : Nat := (zM j).2.2.2.2.2.2.2.1
def zms (j : Nat) : Nat := (zM j).2.2.2.2.2.2.2.2.1
def zO (j : Nat) : Nat := (zM j).2.2.2.2.2.2.2.2.2
def zna (j : Nat) : Nat := (zM j).2.2.2.2.1
def zDec0 (j pc : Nat) (i : Instr) (n : Nat) : Bool := match decode (zM j).2.1 pc with
  | .ok (a, b) => decide (a = i) && Nat.beq b n
  | _ => false
noncomputable def zDec (j pc : Nat) (i : Instr) (n : Nat) : Bool := bif Nat.beq (zqD i).2.1 9 then zDec0 j pc i n else Nat.beq n (zqn (zqD i).2.1) && zqC (zqD i) (zqDr (zM j).2.1.data.toList pc)
def zDecA (j pc : Nat) (i : Instr) : Bool := match decode (zM j).2.1 pc with
  | .ok (a, _) => decide (a = i)
  | _ => false
def zNx (pc n : Nat) (r : List mzO) : Bool := Nat.beq (mzPc r) (pc + n)
def zTo (pc : Nat) (off : Int) (bl : mzB) (x : Nat) : Bool := decide ((pc : Int) + off = ((mzPc (mzBlk bl x) : Nat) : Int))
def zSw (pc : Nat) (bl : mzB) : List Int → List Nat → Bool
  | [], [] => true
  | o :: os, x :: xs => zTo pc o bl x && zSw pc bl os xs
  | _, _ => false
def zPt (j x y t : Nat) (nest : Bool) : Bool := match vwCl[x]? with
  | some (_, T, _) => (match parseFieldDescriptor (T y).2.2.1, t with
      | some .int, 0 => true
      | some .boolean, 1 => true
      | some (.object _), 2 => true
      | some (.array _), 2 => true
      | _, _ => false) && (decide ((T y).2.2.2 = false) || (!nest && (decide ((T y).1 = zcn (zO j)) && decide ((zM j).1.name = "<init>"))))
  | none => false
def zCl (j x na mc ms : Nat) : Bool := Nat.blt x 255 && (Nat.beq na (zna x) && (Nat.beq mc (zmc x) && (Nat.beq ms (zms x) && (Nat.ble (zfr x + 1) (zfr j) && Nat.ble (8 + ((zM x).2.2.1 + 11) + zlo x) (zlo j)))))
def zRoom (j a b : Nat) : Bool := Nat.ble a (zfr j) && Nat.ble b (zlo j)
/-- how long the plain ones are -/
def zLn1 (i : Instr) : Nat := match i with
  | .iconst _ | .lconst _ | .iload_n _ | .lload_n _ | .aload_n _ | .istore_n _ | .lstore_n _ | .astore_n _ | .iadd | .isub | .imul | .irem | .iand | .ior | .ixor | .ishl | .ishr | .iushr | .ladd | .lsub | .land | .lor | .lshl | .lushr | .lcmp | .i2l | .i2b | .l2i | .dup | .dup2 | .pop | .iaload | .baload | .iastore | .bastore | .arraylength => 1
  | .bipush _ | .iload _ | .lload _ | .aload _ | .istore _ | .lstore _ | .astore _ => 2
  | .sipush _ | .iinc _ _ => 3
  | _ => 0
def zAt (a : ArrayType) (x : Nat) : Bool := match a, x with
  | .int, 0 => true
  | .boolean, 1 => true
  | .byte, 2 => true
  | _, _ => false
def zRi (t : Option FieldType) (x : Nat) : Bool := match t, x with
  | some .int, 0 => true
  | some .boolean, 1 => true
  | _, _ => false
def zRl (t : Option FieldType) : Bool := match t with
  | some .long => true
  | _ => false
def zRa (t : Option FieldType) : Bool := match t with
  | some (.object _) => true
  | _ => false
def zRv (t : Option FieldType) : Bool := match t with
  | none => true
  | _ => false
def zf4 (a : Nat) : Fin 4 := Fin.ofNat 4 a
noncomputable def zOkS (j : Nat) (bl : mzB) (pc : Nat) (i : Instr) (x y : Nat) (ts : List Nat) (r : List mzO) : Bool := match i with
  | .nop => Nat.beq (mzPc (mzBlk bl x)) pc
  | .ldc k => (match ts with
    | [_] => zDec j pc i 2 && (zNx pc 2 r && decide ((zO j, k, x) ∈ zLi))
    | [_, _] => zDec j pc i 2 && (zDec j (pc + 2) (.invokevirtual y) 3 && (zNx pc 5 r && (decide ((zO j, k, x, y, 0) ∈ zLt) && zRoom j 2 40)))
    | [_, a, _] => zDec j pc i 2 && (zDec j (pc + 2) (.iload_n (zf4 a)) 1 && (zDec j (pc + 3) (.invokevirtual y) 3 && (zNx pc 6 r && (decide ((zO j, k, x, y, 1) ∈ zLt) && zRoom j 4 85))))
    | [_, a, _, b] => zDec j pc i 2 && (zDec j (pc + 2) (.iload_n (zf4 a)) 1 && (zDec j (pc + 3) (.iload_n (zf4 b)) 1 && (zDec j (pc + 4) .iadd 1 && (zDec j (pc + 5) (.invokevirtual y) 3 && (zNx pc 8 r && (decide ((zO j, k, x, y, 1) ∈ zLt) && zRoom j 4 85))))))
    | _ => true)
  | .ldc2_w k => (match ts with | [_] => zDec j pc i 3 && (zNx pc 3 r && decide ((zO j, k, x) ∈ zLl)) | _ => true)
  | .goto o => zDec j pc i 3 && zTo pc o bl x
  | .ifCond _ o => zDec j pc i 3 && (zNx pc 3 r && zTo pc o bl x)
  | .if_icmp _ o => zDec j pc i 3 && (zNx pc 3 r && zTo pc o bl x)
  | .tableswitch d _ _ os => zDecA j pc i && (zTo pc d bl x && zSw pc bl os.toList ts)
  | .getfield k => (match ts with | [_] => zDec j pc i 3 && (zNx pc 3 r && (decide ((zO j, k, x, y) ∈ zLF) || decide ((zO j, k, x, y) ∈ zLFn))) | _ => true)
  | .putfield k => (match ts with | [t] => zDec j pc i 3 && (zNx pc 3 r && ((decide ((zO j, k, x, y) ∈ zLF) && zPt j x y t false) || (decide ((zO j, k, x, y) ∈ zLFn) && zPt j x y t true))) | _ => true)
  | .newarray a => (match ts with | [_] => zDec j pc i 2 && (zNx pc 2 r && zAt a x) | _ => true)
  | .new k => (match ts with | [_] => zDec j pc i 3 && (zNx pc 3 r && (decide ((zO j, k, x) ∈ zLw) && Nat.blt x 11)) | _ => true)
  | .invokevirtual k => (match ts with | [na, mc, ms] => zDec j pc i 3 && (zNx pc 3 r && ((decide ((zO j, k, x, 0) ∈ zLM) || decide ((zO j, k, x, 0) ∈ zLMn)) && (zCl j x na mc ms && (decide (x ∈ zKv) && (Nat.beq y (zO x) && Nat.blt y 11))))) | _ => true)
  | .invokestatic k => (match ts with
    | [na, mc, ms] => zDec j pc i 3 && (zNx pc 3 r && ((decide ((zO j, k, x, 1) ∈ zLM) || decide ((zO j, k, x, 1) ∈ zLMn)) && (zCl j x na mc ms && decide (x ∈ zKs))))
    | [0] => zDec j pc i 3 && (zNx pc 3 r && (decide ((zO j, k) ∈ zLa) && zRoom j 1 26))
    | [1] => zDec j pc i 3 && (zNx pc 3 r && (decide ((zO j, k) ∈ zLx) && zRoom j 1 21))
    | [_] => zDec j pc i 3 && (zNx pc 3 r && (decide ((zO j, k) ∈ zLn) && zRoom j 1 21))
    | _ => true)
  | .invokespecial k => (match ts with
    | [na, mc, ms] => zDec j pc i 3 && (zNx pc 3 r && ((decide ((zO j, k, x, 2) ∈ zLM) || decide ((zO j, k, x, 2) ∈ zLMn)) && (zCl j x na mc ms && decide (x ∈ zKi))))
    | [_] => zDec j pc i 3 && (zNx pc 3 r && (decide ((zO j, k) ∈ zLo) && zRoom j 1 20))
    | _ => true)
  | .ireturn => zDec j pc i 1 && zRi (zM j).2.2.2.1 x
  | .lreturn => zDec j pc i 1 && zRl (zM j).2.2.2.1
  | .areturn => zDec j pc i 1 && zRa (zM j).2.2.2.1
  | .return_ => zDec j pc i 1 && zRv (zM j).2.2.2.1
  | _ => true
noncomputable def zOk1 (j : Nat) (bl : mzB) (pc : Nat) (i : Instr) (x y : Nat) (ts : List Nat) (r : List mzO) : Bool := match zLn1 i with
  | 0 => zOkS j bl pc i x y ts r
  | n + 1 => zDec j pc i (n + 1) && zNx pc (n + 1) r
noncomputable def zOkL (j : Nat) (bl : mzB) : List mzO → Bool
  | [] => true
  | (pc, i, x, y, ts) :: r => zOk1 j bl pc i x y ts r && zOkL j bl r
noncomputable def zOkM (j : Nat) : Bool := Nat.beq (mzPc (mzBlk (zB j) 0)) 0 && (zB j).all (zOkL j (zB j))
theorem zDec0_at {j pc : Nat} {i : Instr} {n : Nat} (h : zDec0 j pc i n = true) : decode (zM j).2.1 pc = .ok (i, n) := by
  unfold zDec0 at h
  split at h
  · rename_i a b e
    simp only [Bool.and_eq_true, decide_eq_true_eq] at h
    rw [e, h.1, Nat.eq_of_beq_eq_true h.2]
  · cases h
theorem zDec_at {j pc : Nat} {i : Instr} {n : Nat} (h : zDec j pc i n = true) : decode (zM j).2.1 pc = .ok (i, n) := by
  unfold zDec at h
  cases e : Nat.beq (zqD i).2.1 9 with
  | true => rw [e] at h; exact zDec0_at h
  | false =>
    rw [e] at h
    obtain ⟨h1, h2⟩ := (Bool.and_eq_true_iff).mp h
    rw [Nat.eq_of_beq_eq_true h1]
    rw [zqDr_eq] at h2
    exact zq_at i h2
theorem zDecA_at {j pc : Nat} {i : Instr} (h : zDecA j pc i = true) : ∃ n, decode (zM j).2.1 pc = .ok (i, n) := by
  unfold zDecA at h
  split at h
  · rename_i a b e
    simp only [decide_eq_true_eq] at h
    exact ⟨b, by rw [e, h]⟩
  · cases h
theorem zNx_at {pc n : Nat} {r : List mzO} (h : zNx pc n r = true) : mzPc r = pc + n := Nat.eq_of_beq_eq_true h
theorem zTo_at {pc : Nat} {o : Int} {bl : mzB} {x : Nat} (h : zTo pc o bl x = true) : (pc : Int) + o = ((mzPc (mzBlk bl x) : Nat) : Int) := of_decide_eq_true h
theorem zSw_at {pc : Nat} {bl : mzB} : ∀ {os : List Int} {xs : List Nat} {k b : Nat}, zSw pc bl os xs = true → xs[k]? = some b → ∃ o, os[k]? = some o ∧ (pc : Int) + o = ((mzPc (mzBlk bl b) : Nat) : Int)
  | [], [], k, b, _, h => by simp at h
  | o :: os, x :: xs, 0, b, h, hb => by
    simp only [zSw, Bool.and_eq_true] at h
    simp only [List.getElem?_cons_zero, Option.some.injEq] at hb
    subst hb
    exact ⟨o, rfl, zTo_at h.1⟩
  | o :: os, x :: xs, k + 1, b, h, hb => by
    simp only [zSw, Bool.and_eq_true] at h
    simp only [List.getElem?_cons_succ] at hb ⊢
    exact zSw_at h.2 hb
  | [], _ :: _, k, b, h, _ => by simp [zSw] at h
  | _ :: _, [], k, b, h, _ => by simp [zSw] at h
theorem zOkL_blk {j : Nat} (h : zOkM j = true) (x : Nat) : zOkL j (zB j) (mzBlk (zB j) x) = true := by
  unfold zOkM at h
  simp only [Bool.and_eq_true, List.all_eq_true] at h
  unfold mzBlk
  rw [mzNth_eq]
  cases e : (zB j)[x]? with
  | none => rfl
  | some b => exact h.2 b (List.mem_of_getElem? e)
