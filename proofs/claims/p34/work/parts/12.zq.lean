/-! QUICK DECODING: an instruction's opcode and operands (opcode, kind, number, signed number); kind 9: not told; program wip/gzq.py -/
theorem zq_bind {α β : Type} {x : Jvm.ClassFile.Decoder α} {g : α → Jvm.ClassFile.Decoder β} {code : ByteArray} {p q : Nat} {a : α} (h : Jvm.ClassFile.Reader.runAt x code p = .ok (a, q)) : Jvm.ClassFile.Reader.runAt (x >>= g) code p = Jvm.ClassFile.Reader.runAt (g a) code q := by
  show (Except.bind (Jvm.ClassFile.Reader.runAt x code p) fun z => Jvm.ClassFile.Reader.runAt (g z.1) code z.2) = _
  rw [h]
  rfl
theorem zq_u1 {code : ByteArray} {p : Nat} {b : UInt8} (h : code.data.toList[p]? = some b) : Jvm.ClassFile.Reader.runAt (Jvm.ClassFile.Reader.u1 : Jvm.ClassFile.Decoder Nat) code p = .ok (b.toNat, p + 1) := by
  obtain ⟨h1, h2⟩ := List.getElem?_eq_some_iff.mp h
  have hp : p < code.size := h1
  have e : code[p] = b := by rw [← h2]; rfl
  show (dite (p < code.size) (fun _ => (do set (p + 1); pure code[p].toNat : Jvm.ClassFile.Decoder Nat)) (fun _ => throw (Jvm.ClassFile.HasTruncated.truncated p))) code p = _
  rw [dif_pos hp, e]
  rfl
theorem zq_u2 {code : ByteArray} {p a b : Nat} (h : Jvm.ClassFile.Reader.runAt (Jvm.ClassFile.Reader.u1 : Jvm.ClassFile.Decoder Nat) code p = .ok (a, p + 1)) (h2 : Jvm.ClassFile.Reader.runAt (Jvm.ClassFile.Reader.u1 : Jvm.ClassFile.Decoder Nat) code (p + 1) = .ok (b, p + 2)) : Jvm.ClassFile.Reader.runAt (Jvm.ClassFile.Reader.u2 : Jvm.ClassFile.Decoder Nat) code p = .ok (a * 256 + b, p + 2) := by
  unfold Jvm.ClassFile.Reader.u2
  rw [zq_bind h, zq_bind h2]
  rfl
theorem zq_map {code : ByteArray} {p q a : Nat} {f : Nat → Int} {x : Jvm.ClassFile.Decoder Nat} (h : Jvm.ClassFile.Reader.runAt x code p = .ok (a, q)) : Jvm.ClassFile.Reader.runAt (f <$> x : Jvm.ClassFile.Decoder Int) code p = .ok (f a, q) := by
  show (Except.bind (Jvm.ClassFile.Reader.runAt x code p) fun z => (Except.ok (f z.1, z.2) : Except Jvm.ClassFile.DecodeError (Int × Nat))) = _
  rw [h]
  rfl
theorem zq_dec {code : ByteArray} {pc q n : Nat} {i : Instr} (h : Jvm.ClassFile.Reader.runAt (Jvm.ClassFile.Decoder.instr pc) code pc = .ok (i, q)) (e : q = pc + n) : decode code pc = .ok (i, n) := by
  unfold decode
  rw [h, e]
  show Except.ok (i, pc + n - pc) = _
  rw [Nat.add_sub_cancel_left]
/-- a list from a place on, by the recursor itself -/
noncomputable def zqDr (l : List UInt8) (n : Nat) : List UInt8 := List.rec (motive := fun _ => Nat → List UInt8) (fun _ => []) (fun a l ih n => Nat.rec (motive := fun _ => List UInt8) (a :: l) (fun m _ => ih m) n) l n
theorem zqDr_eq : ∀ (l : List UInt8) (n : Nat), zqDr l n = l.drop n
  | [], n => by rw [List.drop_nil]; rfl
  | a :: l, 0 => rfl
  | a :: l, n + 1 => by rw [List.drop_succ_cons, ← zqDr_eq l n]; rfl
noncomputable def zqH (l : List UInt8) (k : Nat → List UInt8 → Bool) : Bool := List.rec (motive := fun _ => Bool) false (fun b r _ => k b.toNat r) l
theorem zqH_at {code : ByteArray} {p : Nat} {k : Nat → List UInt8 → Bool} (h : zqH (code.data.toList.drop p) k = true) : ∃ a, Jvm.ClassFile.Reader.runAt (Jvm.ClassFile.Reader.u1 : Jvm.ClassFile.Decoder Nat) code p = .ok (a, p + 1) ∧ k a (code.data.toList.drop (p + 1)) = true := by
  cases e : code.data.toList.drop p with
  | nil => rw [e] at h; cases h
  | cons b r =>
    rw [e] at h
    have h0 : code.data.toList[p]? = some b := by rw [← Nat.add_zero p, ← List.getElem?_drop, e]; rfl
    refine ⟨b.toNat, zq_u1 h0, ?_⟩
    have e2 : code.data.toList.drop (p + 1) = r := by rw [← List.drop_drop, e]; rfl
    rw [e2]
    exact h
noncomputable def zqC (q : Nat × Nat × Nat × Int) (l : List UInt8) : Bool := zqH l fun a r => Nat.beq a q.1 && (match q.2.1 with
  | 0 => true
  | 1 => zqH r fun b _ => Nat.beq b q.2.2.1
  | 2 => zqH r fun b s => zqH s fun c _ => Nat.beq (b * 256 + c) q.2.2.1
  | 3 => zqH r fun b _ => decide (Jvm.ClassFile.Reader.signed 8 b = q.2.2.2)
  | 4 => zqH r fun b s => zqH s fun c _ => decide (Jvm.ClassFile.Reader.signed 16 (b * 256 + c) = q.2.2.2)
  | 5 => zqH r fun b s => zqH s fun c _ => Nat.beq b q.2.2.1 && decide (Jvm.ClassFile.Reader.signed 8 c = q.2.2.2)
  | _ => false)
theorem zqK0 {code : ByteArray} {pc op k : Nat} {v : Int} (h : zqC (op, 0, k, v) (code.data.toList.drop pc) = true) : Jvm.ClassFile.Reader.runAt (Jvm.ClassFile.Reader.u1 : Jvm.ClassFile.Decoder Nat) code pc = .ok (op, pc + 1) := by
  obtain ⟨a, h0, h⟩ := zqH_at h
  obtain ⟨ha, h⟩ := (Bool.and_eq_true_iff).mp h
  have ha := Nat.eq_of_beq_eq_true ha
  simp only at ha
  subst ha
  exact h0
theorem zqK1 {code : ByteArray} {pc op k : Nat} {v : Int} (h : zqC (op, 1, k, v) (code.data.toList.drop pc) = true) : Jvm.ClassFile.Reader.runAt (Jvm.ClassFile.Reader.u1 : Jvm.ClassFile.Decoder Nat) code pc = .ok (op, pc + 1) ∧ Jvm.ClassFile.Reader.runAt (Jvm.ClassFile.Reader.u1 : Jvm.ClassFile.Decoder Nat) code (pc + 1) = .ok (k, (pc + 1) + 1) := by
  obtain ⟨a, h0, h⟩ := zqH_at h
  obtain ⟨ha, h⟩ := (Bool.and_eq_true_iff).mp h
  have ha := Nat.eq_of_beq_eq_true ha
  simp only at ha
  subst ha
  obtain ⟨b, h1, h⟩ := zqH_at h
  have hb := Nat.eq_of_beq_eq_true h
  simp only at hb
  subst hb
  exact ⟨h0, h1⟩
theorem zqK2 {code : ByteArray} {pc op k : Nat} {v : Int} (h : zqC (op, 2, k, v) (code.data.toList.drop pc) = true) : Jvm.ClassFile.Reader.runAt (Jvm.ClassFile.Reader.u1 : Jvm.ClassFile.Decoder Nat) code pc = .ok (op, pc + 1) ∧ Jvm.ClassFile.Reader.runAt (Jvm.ClassFile.Reader.u2 : Jvm.ClassFile.Decoder Nat) code (pc + 1) = .ok (k, pc + 1 + 2) := by
  obtain ⟨a, h0, h⟩ := zqH_at h
  obtain ⟨ha, h⟩ := (Bool.and_eq_true_iff).mp h
  have ha := Nat.eq_of_beq_eq_true ha
  simp only at ha
  subst ha
  obtain ⟨b, h1, h⟩ := zqH_at h
  obtain ⟨c, h2, h⟩ := zqH_at h
  have hb := Nat.eq_of_beq_eq_true h
  simp only at hb
  subst hb
  exact ⟨h0, zq_u2 h1 h2⟩
theorem zqK3 {code : ByteArray} {pc op k : Nat} {v : Int} (h : zqC (op, 3, k, v) (code.data.toList.drop pc) = true) : Jvm.ClassFile.Reader.runAt (Jvm.ClassFile.Reader.u1 : Jvm.ClassFile.Decoder Nat) code pc = .ok (op, pc + 1) ∧ Jvm.ClassFile.Reader.runAt (Jvm.ClassFile.Reader.s1 : Jvm.ClassFile.Decoder Int) code (pc + 1) = .ok (v, pc + 1 + 1) := by
  obtain ⟨a, h0, h⟩ := zqH_at h
  obtain ⟨ha, h⟩ := (Bool.and_eq_true_iff).mp h
  have ha := Nat.eq_of_beq_eq_true ha
  simp only at ha
  subst ha
  obtain ⟨b, h1, h⟩ := zqH_at h
  have hb := of_decide_eq_true h
  simp only at hb
  subst hb
  exact ⟨h0, zq_map h1⟩
theorem zqK4 {code : ByteArray} {pc op k : Nat} {v : Int} (h : zqC (op, 4, k, v) (code.data.toList.drop pc) = true) : Jvm.ClassFile.Reader.runAt (Jvm.ClassFile.Reader.u1 : Jvm.ClassFile.Decoder Nat) code pc = .ok (op, pc + 1) ∧ Jvm.ClassFile.Reader.runAt (Jvm.ClassFile.Reader.s2 : Jvm.ClassFile.Decoder Int) code (pc + 1) = .ok (v, pc + 1 + 2) := by
  obtain ⟨a, h0, h⟩ := zqH_at h
  obtain ⟨ha, h⟩ := (Bool.and_eq_true_iff).mp h
  have ha := Nat.eq_of_beq_eq_true ha
  simp only at ha
  subst ha
  obtain ⟨b, h1, h⟩ := zqH_at h
  obtain ⟨c, h2, h⟩ := zqH_at h
  have hb := of_decide_eq_true h
  simp only at hb
  subst hb
  exact ⟨h0, zq_map (zq_u2 h1 h2)⟩
theorem zqK5 {code : ByteArray} {pc op k : Nat} {v : Int} (h : zqC (op, 5, k, v) (code.data.toList.drop pc) = true) : Jvm.ClassFile.Reader.runAt (Jvm.ClassFile.Reader.u1 : Jvm.ClassFile.Decoder Nat) code pc = .ok (op, pc + 1) ∧ Jvm.ClassFile.Reader.runAt (Jvm.ClassFile.Reader.u1 : Jvm.ClassFile.Decoder Nat) code (pc + 1) = .ok (k, (pc + 1) + 1) ∧ Jvm.ClassFile.Reader.runAt (Jvm.ClassFile.Reader.s1 : Jvm.ClassFile.Decoder Int) code (pc + 2) = .ok (v, pc + 2 + 1) := by
  obtain ⟨a, h0, h⟩ := zqH_at h
  obtain ⟨ha, h⟩ := (Bool.and_eq_true_iff).mp h
  have ha := Nat.eq_of_beq_eq_true ha
  simp only at ha
  subst ha
  obtain ⟨b, h1, h⟩ := zqH_at h
  obtain ⟨c, h2, h⟩ := zqH_at h
  obtain ⟨x1, x2⟩ := (Bool.and_eq_true_iff).mp h
  have y1 := Nat.eq_of_beq_eq_true x1
  have y2 := of_decide_eq_true x2
  simp only at y1 y2
  clear x1 x2 h
  subst y1
  subst y2
  exact ⟨h0, h1, zq_map h2⟩
theorem zqo_2 {code : ByteArray} {pc : Nat} {w : Nat × Int} (h : zqC (2, 0, w.1, w.2) (code.data.toList.drop pc) = true) : decode code pc = .ok (.iconst (-1), 1) := zq_dec (by unfold Jvm.ClassFile.Decoder.instr; rw [zq_bind (zqK0 h)]; rfl) rfl
theorem zqo_3 {code : ByteArray} {pc : Nat} {w : Nat × Int} (h : zqC (3, 0, w.1, w.2) (code.data.toList.drop pc) = true) : decode code pc = .ok (.iconst 0, 1) := zq_dec (by unfold Jvm.ClassFile.Decoder.instr; rw [zq_bind (zqK0 h)]; rfl) rfl
theorem zqo_4 {code : ByteArray} {pc : Nat} {w : Nat × Int} (h : zqC (4, 0, w.1, w.2) (code.data.toList.drop pc) = true) : decode code pc = .ok (.iconst 1, 1) := zq_dec (by unfold Jvm.ClassFile.Decoder.instr; rw [zq_bind (zqK0 h)]; rfl) rfl
theorem zqo_5 {code : ByteArray} {pc : Nat} {w : Nat × Int} (h : zqC (5, 0, w.1, w.2) (code.data.toList.drop pc) = true) : decode code pc = .ok (.iconst 2, 1) := zq_dec (by unfold Jvm.ClassFile.Decoder.instr; rw [zq_bind (zqK0 h)]; rfl) rfl
theorem zqo_6 {code : ByteArray} {pc : Nat} {w : Nat × Int} (h : zqC (6, 0, w.1, w.2) (code.data.toList.drop pc) = true) : decode code pc = .ok (.iconst 3, 1) := zq_dec (by unfold Jvm.ClassFile.Decoder.instr; rw [zq_bind (zqK0 h)]; rfl) rfl
theorem zqo_7 {code : ByteArray} {pc : Nat} {w : Nat × Int} (h : zqC (7, 0, w.1, w.2) (code.data.toList.drop pc) = true) : decode code pc = .ok (.iconst 4, 1) := zq_dec (by unfold Jvm.ClassFile.Decoder.instr; rw [zq_bind (zqK0 h)]; rfl) rfl
theorem zqo_8 {code : ByteArray} {pc : Nat} {w : Nat × Int} (h : zqC (8, 0, w.1, w.2) (code.data.toList.drop pc) = true) : decode code pc = .ok (.iconst 5, 1) := zq_dec (by unfold Jvm.ClassFile.Decoder.instr; rw [zq_bind (zqK0 h)]; rfl) rfl
theorem zqo_9 {code : ByteArray} {pc : Nat} {w : Nat × Int} (h : zqC (9, 0, w.1, w.2) (code.data.toList.drop pc) = true) : decode code pc = .ok (.lconst 0, 1) := zq_dec (by unfold Jvm.ClassFile.Decoder.instr; rw [zq_bind (zqK0 h)]; rfl) rfl
theorem zqo_10 {code : ByteArray} {pc : Nat} {w : Nat × Int} (h : zqC (10, 0, w.1, w.2) (code.data.toList.drop pc) = true) : decode code pc = .ok (.lconst 1, 1) := zq_dec (by unfold Jvm.ClassFile.Decoder.instr; rw [zq_bind (zqK0 h)]; rfl) rfl
theorem zqo_16 {code : ByteArray} {pc : Nat} {v : Int} {w : Nat} (h : zqC (16, 3, w, v) (code.data.toList.drop pc) = true) : decode code pc = .ok (.bipush v, 2) := zq_dec (by unfold Jvm.ClassFile.Decoder.instr; rw [zq_bind (zqK3 h).1]; exact (zq_bind (zqK3 h).2).trans rfl) rfl
theorem zqo_17 {code : ByteArray} {pc : Nat} {v : Int} {w : Nat} (h : zqC (17, 4, w, v) (code.data.toList.drop pc) = true) : decode code pc = .ok (.sipush v, 3) := zq_dec (by unfold Jvm.ClassFile.Decoder.instr; rw [zq_bind (zqK4 h).1]; exact (zq_bind (zqK4 h).2).trans rfl) rfl
theorem zqo_18 {code : ByteArray} {pc : Nat} {k : Nat} {w : Int} (h : zqC (18, 1, k, w) (code.data.toList.drop pc) = true) : decode code pc = .ok (.ldc k, 2) := zq_dec (by unfold Jvm.ClassFile.Decoder.instr; rw [zq_bind (zqK1 h).1]; exact (zq_bind (zqK1 h).2).trans rfl) rfl
theorem zqo_20 {code : ByteArray} {pc : Nat} {k : Nat} {w : Int} (h : zqC (20, 2, k, w) (code.data.toList.drop pc) = true) : decode code pc = .ok (.ldc2_w k, 3) := zq_dec (by unfold Jvm.ClassFile.Decoder.instr; rw [zq_bind (zqK2 h).1]; exact (zq_bind (zqK2 h).2).trans rfl) rfl
theorem zqo_21 {code : ByteArray} {pc : Nat} {k : Nat} {w : Int} (h : zqC (21, 1, k, w) (code.data.toList.drop pc) = true) : decode code pc = .ok (.iload k, 2) := zq_dec (by unfold Jvm.ClassFile.Decoder.instr; rw [zq_bind (zqK1 h).1]; exact (zq_bind (zqK1 h).2).trans rfl) rfl
theorem zqo_22 {code : ByteArray} {pc : Nat} {k : Nat} {w : Int} (h : zqC (22, 1, k, w) (code.data.toList.drop pc) = true) : decode code pc = .ok (.lload k, 2) := zq_dec (by unfold Jvm.ClassFile.Decoder.instr; rw [zq_bind (zqK1 h).1]; exact (zq_bind (zqK1 h).2).trans rfl) rfl
theorem zqo_25 {code : ByteArray} {pc : Nat} {k : Nat} {w : Int} (h : zqC (25, 1, k, w) (code.data.toList.drop pc) = true) : decode code pc = .ok (.aload k, 2) := zq_dec (by unfold Jvm.ClassFile.Decoder.instr; rw [zq_bind (zqK1 h).1]; exact (zq_bind (zqK1 h).2).trans rfl) rfl
theorem zqo_26 {code : ByteArray} {pc : Nat} {w : Nat × Int} (h : zqC (26, 0, w.1, w.2) (code.data.toList.drop pc) = true) : decode code pc = .ok (.iload_n 0, 1) := zq_dec (by unfold Jvm.ClassFile.Decoder.instr; rw [zq_bind (zqK0 h)]; rfl) rfl
theorem zqo_27 {code : ByteArray} {pc : Nat} {w : Nat × Int} (h : zqC (27, 0, w.1, w.2) (code.data.toList.drop pc) = true) : decode code pc = .ok (.iload_n 1, 1) := zq_dec (by unfold Jvm.ClassFile.Decoder.instr; rw [zq_bind (zqK0 h)]; rfl) rfl
theorem zqo_28 {code : ByteArray} {pc : Nat} {w : Nat × Int} (h : zqC (28, 0, w.1, w.2) (code.data.toList.drop pc) = true) : decode code pc = .ok (.iload_n 2, 1) := zq_dec (by unfold Jvm.ClassFile.Decoder.instr; rw [zq_bind (zqK0 h)]; rfl) rfl
theorem zqo_29 {code : ByteArray} {pc : Nat} {w : Nat × Int} (h : zqC (29, 0, w.1, w.2) (code.data.toList.drop pc) = true) : decode code pc = .ok (.iload_n 3, 1) := zq_dec (by unfold Jvm.ClassFile.Decoder.instr; rw [zq_bind (zqK0 h)]; rfl) rfl
theorem zqo_30 {code : ByteArray} {pc : Nat} {w : Nat × Int} (h : zqC (30, 0, w.1, w.2) (code.data.toList.drop pc) = true) : decode code pc = .ok (.lload_n 0, 1) := zq_dec (by unfold Jvm.ClassFile.Decoder.instr; rw [zq_bind (zqK0 h)]; rfl) rfl
theorem zqo_31 {code : ByteArray} {pc : Nat} {w : Nat × Int} (h : zqC (31, 0, w.1, w.2) (code.data.toList.drop pc) = true) : decode code pc = .ok (.lload_n 1, 1) := zq_dec (by unfold Jvm.ClassFile.Decoder.instr; rw [zq_bind (zqK0 h)]; rfl) rfl
theorem zqo_32 {code : ByteArray} {pc : Nat} {w : Nat × Int} (h : zqC (32, 0, w.1, w.2) (code.data.toList.drop pc) = true) : decode code pc = .ok (.lload_n 2, 1) := zq_dec (by unfold Jvm.ClassFile.Decoder.instr; rw [zq_bind (zqK0 h)]; rfl) rfl
theorem zqo_33 {code : ByteArray} {pc : Nat} {w : Nat × Int} (h : zqC (33, 0, w.1, w.2) (code.data.toList.drop pc) = true) : decode code pc = .ok (.lload_n 3, 1) := zq_dec (by unfold Jvm.ClassFile.Decoder.instr; rw [zq_bind (zqK0 h)]; rfl) rfl
theorem zqo_42 {code : ByteArray} {pc : Nat} {w : Nat × Int} (h : zqC (42, 0, w.1, w.2) (code.data.toList.drop pc) = true) : decode code pc = .ok (.aload_n 0, 1) := zq_dec (by unfold Jvm.ClassFile.Decoder.instr; rw [zq_bind (zqK0 h)]; rfl) rfl
theorem zqo_43 {code : ByteArray} {pc : Nat} {w : Nat × Int} (h : zqC (43, 0, w.1, w.2) (code.data.toList.drop pc) = true) : decode code pc = .ok (.aload_n 1, 1) := zq_dec (by unfold Jvm.ClassFile.Decoder.instr; rw [zq_bind (zqK0 h)]; rfl) rfl
theorem zqo_44 {code : ByteArray} {pc : Nat} {w : Nat × Int} (h : zqC (44, 0, w.1, w.2) (code.data.toList.drop pc) = true) : decode code pc = .ok (.aload_n 2, 1) := zq_dec (by unfold Jvm.ClassFile.Decoder.instr; rw [zq_bind (zqK0 h)]; rfl) rfl
theorem zqo_45 {code : ByteArray} {pc : Nat} {w : Nat × Int} (h : zqC (45, 0, w.1, w.2) (code.data.toList.drop pc) = true) : decode code pc = .ok (.aload_n 3, 1) := zq_dec (by unfold Jvm.ClassFile.Decoder.instr; rw [zq_bind (zqK0 h)]; rfl) rfl
theorem zqo_46 {code : ByteArray} {pc : Nat} {w : Nat × Int} (h : zqC (46, 0, w.1, w.2) (code.data.toList.drop pc) = true) : decode code pc = .ok (.iaload, 1) := zq_dec (by unfold Jvm.ClassFile.Decoder.instr; rw [zq_bind (zqK0 h)]; rfl) rfl
theorem zqo_51 {code : ByteArray} {pc : Nat} {w : Nat × Int} (h : zqC (51, 0, w.1, w.2) (code.data.toList.drop pc) = true) : decode code pc = .ok (.baload, 1) := zq_dec (by unfold Jvm.ClassFile.Decoder.instr; rw [zq_bind (zqK0 h)]; rfl) rfl
theorem zqo_54 {code : ByteArray} {pc : Nat} {k : Nat} {w : Int} (h : zqC (54, 1, k, w) (code.data.toList.drop pc) = true) : decode code pc = .ok (.istore k, 2) := zq_dec (by unfold Jvm.ClassFile.Decoder.instr; rw [zq_bind (zqK1 h).1]; exact (zq_bind (zqK1 h).2).trans rfl) rfl
theorem zqo_55 {code : ByteArray} {pc : Nat} {k : Nat} {w : Int} (h : zqC (55, 1, k, w) (code.data.toList.drop pc) = true) : decode code pc = .ok (.lstore k, 2) := zq_dec (by unfold Jvm.ClassFile.Decoder.instr; rw [zq_bind (zqK1 h).1]; exact (zq_bind (zqK1 h).2).trans rfl) rfl
theorem zqo_58 {code : ByteArray} {pc : Nat} {k : Nat} {w : Int} (h : zqC (58, 1, k, w) (code.data.toList.drop pc) = true) : decode code pc = .ok (.astore k, 2) := zq_dec (by unfold Jvm.ClassFile.Decoder.instr; rw [zq_bind (zqK1 h).1]; exact (zq_bind (zqK1 h).2).trans rfl) rfl
theorem zqo_59 {code : ByteArray} {pc : Nat} {w : Nat × Int} (h : zqC (59, 0, w.1, w.2) (code.data.toList.drop pc) = true) : decode code pc = .ok (.istore_n 0, 1) := zq_dec (by unfold Jvm.ClassFile.Decoder.instr; rw [zq_bind (zqK0 h)]; rfl) rfl
theorem zqo_60 {code : ByteArray} {pc : Nat} {w : Nat × Int} (h : zqC (60, 0, w.1, w.2) (code.data.toList.drop pc) = true) : decode code pc = .ok (.istore_n 1, 1) := zq_dec (by unfold Jvm.ClassFile.Decoder.instr; rw [zq_bind (zqK0 h)]; rfl) rfl
theorem zqo_61 {code : ByteArray} {pc : Nat} {w : Nat × Int} (h : zqC (61, 0, w.1, w.2) (code.data.toList.drop pc) = true) : decode code pc = .ok (.istore_n 2, 1) := zq_dec (by unfold Jvm.ClassFile.Decoder.instr; rw [zq_bind (zqK0 h)]; rfl) rfl
theorem zqo_62 {code : ByteArray} {pc : Nat} {w : Nat × Int} (h : zqC (62, 0, w.1, w.2) (code.data.toList.drop pc) = true) : decode code pc = .ok (.istore_n 3, 1) := zq_dec (by unfold Jvm.ClassFile.Decoder.instr; rw [zq_bind (zqK0 h)]; rfl) rfl
theorem zqo_63 {code : ByteArray} {pc : Nat} {w : Nat × Int} (h : zqC (63, 0, w.1, w.2) (code.data.toList.drop pc) = true) : decode code pc = .ok (.lstore_n 0, 1) := zq_dec (by unfold Jvm.ClassFile.Decoder.instr; rw [zq_bind (zqK0 h)]; rfl) rfl
theorem zqo_64 {code : ByteArray} {pc : Nat} {w : Nat × Int} (h : zqC (64, 0, w.1, w.2) (code.data.toList.drop pc) = true) : decode code pc = .ok (.lstore_n 1, 1) := zq_dec (by unfold Jvm.ClassFile.Decoder.instr; rw [zq_bind (zqK0 h)]; rfl) rfl
theorem zqo_65 {code : ByteArray} {pc : Nat} {w : Nat × Int} (h : zqC (65, 0, w.1, w.2) (code.data.toList.drop pc) = true) : decode code pc = .ok (.lstore_n 2, 1) := zq_dec (by unfold Jvm.ClassFile.Decoder.instr; rw [zq_bind (zqK0 h)]; rfl) rfl
theorem zqo_66 {code : ByteArray} {pc : Nat} {w : Nat × Int} (h : zqC (66, 0, w.1, w.2) (code.data.toList.drop pc) = true) : decode code pc = .ok (.lstore_n 3, 1) := zq_dec (by unfold Jvm.ClassFile.Decoder.instr; rw [zq_bind (zqK0 h)]; rfl) rfl
theorem zqo_75 {code : ByteArray} {pc : Nat} {w : Nat × Int} (h : zqC (75, 0, w.1, w.2) (code.data.toList.drop pc) = true) : decode code pc = .ok (.astore_n 0, 1) := zq_dec (by unfold Jvm.ClassFile.Decoder.instr; rw [zq_bind (zqK0 h)]; rfl) rfl
theorem zqo_76 {code : ByteArray} {pc : Nat} {w : Nat × Int} (h : zqC (76, 0, w.1, w.2) (code.data.toList.drop pc) = true) : decode code pc = .ok (.astore_n 1, 1) := zq_dec (by unfold Jvm.ClassFile.Decoder.instr; rw [zq_bind (zqK0 h)]; rfl) rfl
theorem zqo_77 {code : ByteArray} {pc : Nat} {w : Nat × Int} (h : zqC (77, 0, w.1, w.2) (code.data.toList.drop pc) = true) : decode code pc = .ok (.astore_n 2, 1) := zq_dec (by unfold Jvm.ClassFile.Decoder.instr; rw [zq_bind (zqK0 h)]; rfl) rfl
theorem zqo_78 {code : ByteArray} {pc : Nat} {w : Nat × Int} (h : zqC (78, 0, w.1, w.2) (code.data.toList.drop pc) = true) : decode code pc = .ok (.astore_n 3, 1) := zq_dec (by unfold Jvm.ClassFile.Decoder.instr; rw [zq_bind (zqK0 h)]; rfl) rfl
theorem zqo_79 {code : ByteArray} {pc : Nat} {w : Nat × Int} (h : zqC (79, 0, w.1, w.2) (code.data.toList.drop pc) = true) : decode code pc = .ok (.iastore, 1) := zq_dec (by unfold Jvm.ClassFile.Decoder.instr; rw [zq_bind (zqK0 h)]; rfl) rfl
theorem zqo_84 {code : ByteArray} {pc : Nat} {w : Nat × Int} (h : zqC (84, 0, w.1, w.2) (code.data.toList.drop pc) = true) : decode code pc = .ok (.bastore, 1) := zq_dec (by unfold Jvm.ClassFile.Decoder.instr; rw [zq_bind (zqK0 h)]; rfl) rfl
theorem zqo_87 {code : ByteArray} {pc : Nat} {w : Nat × Int} (h : zqC (87, 0, w.1, w.2) (code.data.toList.drop pc) = true) : decode code pc = .ok (.pop, 1) := zq_dec (by unfold Jvm.ClassFile.Decoder.instr; rw [zq_bind (zqK0 h)]; rfl) rfl
theorem zqo_89 {code : ByteArray} {pc : Nat} {w : Nat × Int} (h : zqC (89, 0, w.1, w.2) (code.data.toList.drop pc) = true) : decode code pc = .ok (.dup, 1) := zq_dec (by unfold Jvm.ClassFile.Decoder.instr; rw [zq_bind (zqK0 h)]; rfl) rfl
theorem zqo_92 {code : ByteArray} {pc : Nat} {w : Nat × Int} (h : zqC (92, 0, w.1, w.2) (code.data.toList.drop pc) = true) : decode code pc = .ok (.dup2, 1) := zq_dec (by unfold Jvm.ClassFile.Decoder.instr; rw [zq_bind (zqK0 h)]; rfl) rfl
theorem zqo_96 {code : ByteArray} {pc : Nat} {w : Nat × Int} (h : zqC (96, 0, w.1, w.2) (code.data.toList.drop pc) = true) : decode code pc = .ok (.iadd, 1) := zq_dec (by unfold Jvm.ClassFile.Decoder.instr; rw [zq_bind (zqK0 h)]; rfl) rfl
theorem zqo_97 {code : ByteArray} {pc : Nat} {w : Nat × Int} (h : zqC (97, 0, w.1, w.2) (code.data.toList.drop pc) = true) : decode code pc = .ok (.ladd, 1) := zq_dec (by unfold Jvm.ClassFile.Decoder.instr; rw [zq_bind (zqK0 h)]; rfl) rfl
theorem zqo_100 {code : ByteArray} {pc : Nat} {w : Nat × Int} (h : zqC (100, 0, w.1, w.2) (code.data.toList.drop pc) = true) : decode code pc = .ok (.isub, 1) := zq_dec (by unfold Jvm.ClassFile.Decoder.instr; rw [zq_bind (zqK0 h)]; rfl) rfl
theorem zqo_101 {code : ByteArray} {pc : Nat} {w : Nat × Int} (h : zqC (101, 0, w.1, w.2) (code.data.toList.drop pc) = true) : decode code pc = .ok (.lsub, 1) := zq_dec (by unfold Jvm.ClassFile.Decoder.instr; rw [zq_bind (zqK0 h)]; rfl) rfl
theorem zqo_104 {code : ByteArray} {pc : Nat} {w : Nat × Int} (h : zqC (104, 0, w.1, w.2) (code.data.toList.drop pc) = true) : decode code pc = .ok (.imul, 1) := zq_dec (by unfold Jvm.ClassFile.Decoder.instr; rw [zq_bind (zqK0 h)]; rfl) rfl
theorem zqo_112 {code : ByteArray} {pc : Nat} {w : Nat × Int} (h : zqC (112, 0, w.1, w.2) (code.data.toList.drop pc) = true) : decode code pc = .ok (.irem, 1) := zq_dec (by unfold Jvm.ClassFile.Decoder.instr; rw [zq_bind (zqK0 h)]; rfl) rfl
theorem zqo_120 {code : ByteArray} {pc : Nat} {w : Nat × Int} (h : zqC (120, 0, w.1, w.2) (code.data.toList.drop pc) = true) : decode code pc = .ok (.ishl, 1) := zq_dec (by unfold Jvm.ClassFile.Decoder.instr; rw [zq_bind (zqK0 h)]; rfl) rfl
theorem zqo_121 {code : ByteArray} {pc : Nat} {w : Nat × Int} (h : zqC (121, 0, w.1, w.2) (code.data.toList.drop pc) = true) : decode code pc = .ok (.lshl, 1) := zq_dec (by unfold Jvm.ClassFile.Decoder.instr; rw [zq_bind (zqK0 h)]; rfl) rfl
theorem zqo_122 {code : ByteArray} {pc : Nat} {w : Nat × Int} (h : zqC (122, 0, w.1, w.2) (code.data.toList.drop pc) = true) : decode code pc = .ok (.ishr, 1) := zq_dec (by unfold Jvm.ClassFile.Decoder.instr; rw [zq_bind (zqK0 h)]; rfl) rfl
theorem zqo_124 {code : ByteArray} {pc : Nat} {w : Nat × Int} (h : zqC (124, 0, w.1, w.2) (code.data.toList.drop pc) = true) : decode code pc = .ok (.iushr, 1) := zq_dec (by unfold Jvm.ClassFile.Decoder.instr; rw [zq_bind (zqK0 h)]; rfl) rfl
theorem zqo_125 {code : ByteArray} {pc : Nat} {w : Nat × Int} (h : zqC (125, 0, w.1, w.2) (code.data.toList.drop pc) = true) : decode code pc = .ok (.lushr, 1) := zq_dec (by unfold Jvm.ClassFile.Decoder.instr; rw [zq_bind (zqK0 h)]; rfl) rfl
theorem zqo_126 {code : ByteArray} {pc : Nat} {w : Nat × Int} (h : zqC (126, 0, w.1, w.2) (code.data.toList.drop pc) = true) : decode code pc = .ok (.iand, 1) := zq_dec (by unfold Jvm.ClassFile.Decoder.instr; rw [zq_bind (zqK0 h)]; rfl) rfl
theorem zqo_127 {code : ByteArray} {pc : Nat} {w : Nat × Int} (h : zqC (127, 0, w.1, w.2) (code.data.toList.drop pc) = true) : decode code pc = .ok (.land, 1) := zq_dec (by unfold Jvm.ClassFile.Decoder.instr; rw [zq_bind (zqK0 h)]; rfl) rfl
theorem zqo_128 {code : ByteArray} {pc : Nat} {w : Nat × Int} (h : zqC (128, 0, w.1, w.2) (code.data.toList.drop pc) = true) : decode code pc = .ok (.ior, 1) := zq_dec (by unfold Jvm.ClassFile.Decoder.instr; rw [zq_bind (zqK0 h)]; rfl) rfl
theorem zqo_129 {code : ByteArray} {pc : Nat} {w : Nat × Int} (h : zqC (129, 0, w.1, w.2) (code.data.toList.drop pc) = true) : decode code pc = .ok (.lor, 1) := zq_dec (by unfold Jvm.ClassFile.Decoder.instr; rw [zq_bind (zqK0 h)]; rfl) rfl
theorem zqo_130 {code : ByteArray} {pc : Nat} {w : Nat × Int} (h : zqC (130, 0, w.1, w.2) (code.data.toList.drop pc) = true) : decode code pc = .ok (.ixor, 1) := zq_dec (by unfold Jvm.ClassFile.Decoder.instr; rw [zq_bind (zqK0 h)]; rfl) rfl
theorem zqo_132 {code : ByteArray} {pc : Nat} {k : Nat} {v : Int} (h : zqC (132, 5, k, v) (code.data.toList.drop pc) = true) : decode code pc = .ok (.iinc k v, 3) := zq_dec (by unfold Jvm.ClassFile.Decoder.instr; rw [zq_bind (zqK5 h).1]; exact (zq_bind (zqK5 h).2.1).trans ((zq_bind (zqK5 h).2.2).trans rfl)) rfl
theorem zqo_133 {code : ByteArray} {pc : Nat} {w : Nat × Int} (h : zqC (133, 0, w.1, w.2) (code.data.toList.drop pc) = true) : decode code pc = .ok (.i2l, 1) := zq_dec (by unfold Jvm.ClassFile.Decoder.instr; rw [zq_bind (zqK0 h)]; rfl) rfl
theorem zqo_136 {code : ByteArray} {pc : Nat} {w : Nat × Int} (h : zqC (136, 0, w.1, w.2) (code.data.toList.drop pc) = true) : decode code pc = .ok (.l2i, 1) := zq_dec (by unfold Jvm.ClassFile.Decoder.instr; rw [zq_bind (zqK0 h)]; rfl) rfl
theorem zqo_145 {code : ByteArray} {pc : Nat} {w : Nat × Int} (h : zqC (145, 0, w.1, w.2) (code.data.toList.drop pc) = true) : decode code pc = .ok (.i2b, 1) := zq_dec (by unfold Jvm.ClassFile.Decoder.instr; rw [zq_bind (zqK0 h)]; rfl) rfl
theorem zqo_148 {code : ByteArray} {pc : Nat} {w : Nat × Int} (h : zqC (148, 0, w.1, w.2) (code.data.toList.drop pc) = true) : decode code pc = .ok (.lcmp, 1) := zq_dec (by unfold Jvm.ClassFile.Decoder.instr; rw [zq_bind (zqK0 h)]; rfl) rfl
theorem zqo_153 {code : ByteArray} {pc : Nat} {v : Int} {w : Nat} (h : zqC (153, 4, w, v) (code.data.toList.drop pc) = true) : decode code pc = .ok (.ifCond .eq v, 3) := zq_dec (by unfold Jvm.ClassFile.Decoder.instr; rw [zq_bind (zqK4 h).1]; exact (zq_bind (zqK4 h).2).trans rfl) rfl
theorem zqo_154 {code : ByteArray} {pc : Nat} {v : Int} {w : Nat} (h : zqC (154, 4, w, v) (code.data.toList.drop pc) = true) : decode code pc = .ok (.ifCond .ne v, 3) := zq_dec (by unfold Jvm.ClassFile.Decoder.instr; rw [zq_bind (zqK4 h).1]; exact (zq_bind (zqK4 h).2).trans rfl) rfl
theorem zqo_155 {code : ByteArray} {pc : Nat} {v : Int} {w : Nat} (h : zqC (155, 4, w, v) (code.data.toList.drop pc) = true) : decode code pc = .ok (.ifCond .lt v, 3) := zq_dec (by unfold Jvm.ClassFile.Decoder.instr; rw [zq_bind (zqK4 h).1]; exact (zq_bind (zqK4 h).2).trans rfl) rfl
theorem zqo_156 {code : ByteArray} {pc : Nat} {v : Int} {w : Nat} (h : zqC (156, 4, w, v) (code.data.toList.drop pc) = true) : decode code pc = .ok (.ifCond .ge v, 3) := zq_dec (by unfold Jvm.ClassFile.Decoder.instr; rw [zq_bind (zqK4 h).1]; exact (zq_bind (zqK4 h).2).trans rfl) rfl
theorem zqo_157 {code : ByteArray} {pc : Nat} {v : Int} {w : Nat} (h : zqC (157, 4, w, v) (code.data.toList.drop pc) = true) : decode code pc = .ok (.ifCond .gt v, 3) := zq_dec (by unfold Jvm.ClassFile.Decoder.instr; rw [zq_bind (zqK4 h).1]; exact (zq_bind (zqK4 h).2).trans rfl) rfl
theorem zqo_158 {code : ByteArray} {pc : Nat} {v : Int} {w : Nat} (h : zqC (158, 4, w, v) (code.data.toList.drop pc) = true) : decode code pc = .ok (.ifCond .le v, 3) := zq_dec (by unfold Jvm.ClassFile.Decoder.instr; rw [zq_bind (zqK4 h).1]; exact (zq_bind (zqK4 h).2).trans rfl) rfl
theorem zqo_159 {code : ByteArray} {pc : Nat} {v : Int} {w : Nat} (h : zqC (159, 4, w, v) (code.data.toList.drop pc) = true) : decode code pc = .ok (.if_icmp .eq v, 3) := zq_dec (by unfold Jvm.ClassFile.Decoder.instr; rw [zq_bind (zqK4 h).1]; exact (zq_bind (zqK4 h).2).trans rfl) rfl
theorem zqo_160 {code : ByteArray} {pc : Nat} {v : Int} {w : Nat} (h : zqC (160, 4, w, v) (code.data.toList.drop pc) = true) : decode code pc = .ok (.if_icmp .ne v, 3) := zq_dec (by unfold Jvm.ClassFile.Decoder.instr; rw [zq_bind (zqK4 h).1]; exact (zq_bind (zqK4 h).2).trans rfl) rfl
theorem zqo_161 {code : ByteArray} {pc : Nat} {v : Int} {w : Nat} (h : zqC (161, 4, w, v) (code.data.toList.drop pc) = true) : decode code pc = .ok (.if_icmp .lt v, 3) := zq_dec (by unfold Jvm.ClassFile.Decoder.instr; rw [zq_bind (zqK4 h).1]; exact (zq_bind (zqK4 h).2).trans rfl) rfl
theorem zqo_162 {code : ByteArray} {pc : Nat} {v : Int} {w : Nat} (h : zqC (162, 4, w, v) (code.data.toList.drop pc) = true) : decode code pc = .ok (.if_icmp .ge v, 3) := zq_dec (by unfold Jvm.ClassFile.Decoder.instr; rw [zq_bind (zqK4 h).1]; exact (zq_bind (zqK4 h).2).trans rfl) rfl
theorem zqo_163 {code : ByteArray} {pc : Nat} {v : Int} {w : Nat} (h : zqC (163, 4, w, v) (code.data.toList.drop pc) = true) : decode code pc = .ok (.if_icmp .gt v, 3) := zq_dec (by unfold Jvm.ClassFile.Decoder.instr; rw [zq_bind (zqK4 h).1]; exact (zq_bind (zqK4 h).2).trans rfl) rfl
theorem zqo_164 {code : ByteArray} {pc : Nat} {v : Int} {w : Nat} (h : zqC (164, 4, w, v) (code.data.toList.drop pc) = true) : decode code pc = .ok (.if_icmp .le v, 3) := zq_dec (by unfold Jvm.ClassFile.Decoder.instr; rw [zq_bind (zqK4 h).1]; exact (zq_bind (zqK4 h).2).trans rfl) rfl
theorem zqo_167 {code : ByteArray} {pc : Nat} {v : Int} {w : Nat} (h : zqC (167, 4, w, v) (code.data.toList.drop pc) = true) : decode code pc = .ok (.goto v, 3) := zq_dec (by unfold Jvm.ClassFile.Decoder.instr; rw [zq_bind (zqK4 h).1]; exact (zq_bind (zqK4 h).2).trans rfl) rfl
theorem zqo_172 {code : ByteArray} {pc : Nat} {w : Nat × Int} (h : zqC (172, 0, w.1, w.2) (code.data.toList.drop pc) = true) : decode code pc = .ok (.ireturn, 1) := zq_dec (by unfold Jvm.ClassFile.Decoder.instr; rw [zq_bind (zqK0 h)]; rfl) rfl
theorem zqo_173 {code : ByteArray} {pc : Nat} {w : Nat × Int} (h : zqC (173, 0, w.1, w.2) (code.data.toList.drop pc) = true) : decode code pc = .ok (.lreturn, 1) := zq_dec (by unfold Jvm.ClassFile.Decoder.instr; rw [zq_bind (zqK0 h)]; rfl) rfl
theorem zqo_176 {code : ByteArray} {pc : Nat} {w : Nat × Int} (h : zqC (176, 0, w.1, w.2) (code.data.toList.drop pc) = true) : decode code pc = .ok (.areturn, 1) := zq_dec (by unfold Jvm.ClassFile.Decoder.instr; rw [zq_bind (zqK0 h)]; rfl) rfl
theorem zqo_177 {code : ByteArray} {pc : Nat} {w : Nat × Int} (h : zqC (177, 0, w.1, w.2) (code.data.toList.drop pc) = true) : decode code pc = .ok (.return_, 1) := zq_dec (by unfold Jvm.ClassFile.Decoder.instr; rw [zq_bind (zqK0 h)]; rfl) rfl
theorem zqo_180 {code : ByteArray} {pc : Nat} {k : Nat} {w : Int} (h : zqC (180, 2, k, w) (code.data.toList.drop pc) = true) : decode code pc = .ok (.getfield k, 3) := zq_dec (by unfold Jvm.ClassFile.Decoder.instr; rw [zq_bind (zqK2 h).1]; exact (zq_bind (zqK2 h).2).trans rfl) rfl
theorem zqo_181 {code : ByteArray} {pc : Nat} {k : Nat} {w : Int} (h : zqC (181, 2, k, w) (code.data.toList.drop pc) = true) : decode code pc = .ok (.putfield k, 3) := zq_dec (by unfold Jvm.ClassFile.Decoder.instr; rw [zq_bind (zqK2 h).1]; exact (zq_bind (zqK2 h).2).trans rfl) rfl
theorem zqo_182 {code : ByteArray} {pc : Nat} {k : Nat} {w : Int} (h : zqC (182, 2, k, w) (code.data.toList.drop pc) = true) : decode code pc = .ok (.invokevirtual k, 3) := zq_dec (by unfold Jvm.ClassFile.Decoder.instr; rw [zq_bind (zqK2 h).1]; exact (zq_bind (zqK2 h).2).trans rfl) rfl
theorem zqo_183 {code : ByteArray} {pc : Nat} {k : Nat} {w : Int} (h : zqC (183, 2, k, w) (code.data.toList.drop pc) = true) : decode code pc = .ok (.invokespecial k, 3) := zq_dec (by unfold Jvm.ClassFile.Decoder.instr; rw [zq_bind (zqK2 h).1]; exact (zq_bind (zqK2 h).2).trans rfl) rfl
theorem zqo_184 {code : ByteArray} {pc : Nat} {k : Nat} {w : Int} (h : zqC (184, 2, k, w) (code.data.toList.drop pc) = true) : decode code pc = .ok (.invokestatic k, 3) := zq_dec (by unfold Jvm.ClassFile.Decoder.instr; rw [zq_bind (zqK2 h).1]; exact (zq_bind (zqK2 h).2).trans rfl) rfl
theorem zqo_187 {code : ByteArray} {pc : Nat} {k : Nat} {w : Int} (h : zqC (187, 2, k, w) (code.data.toList.drop pc) = true) : decode code pc = .ok (.new k, 3) := zq_dec (by unfold Jvm.ClassFile.Decoder.instr; rw [zq_bind (zqK2 h).1]; exact (zq_bind (zqK2 h).2).trans rfl) rfl
theorem zqo_188_4 {code : ByteArray} {pc : Nat} {v : Int} (h : zqC (188, 1, 4, v) (code.data.toList.drop pc) = true) : decode code pc = .ok (.newarray .boolean, 2) := zq_dec (by unfold Jvm.ClassFile.Decoder.instr; rw [zq_bind (zqK1 h).1]; exact (zq_bind (zqK1 h).2).trans rfl) rfl
theorem zqo_188_8 {code : ByteArray} {pc : Nat} {v : Int} (h : zqC (188, 1, 8, v) (code.data.toList.drop pc) = true) : decode code pc = .ok (.newarray .byte, 2) := zq_dec (by unfold Jvm.ClassFile.Decoder.instr; rw [zq_bind (zqK1 h).1]; exact (zq_bind (zqK1 h).2).trans rfl) rfl
theorem zqo_188_10 {code : ByteArray} {pc : Nat} {v : Int} (h : zqC (188, 1, 10, v) (code.data.toList.drop pc) = true) : decode code pc = .ok (.newarray .int, 2) := zq_dec (by unfold Jvm.ClassFile.Decoder.instr; rw [zq_bind (zqK1 h).1]; exact (zq_bind (zqK1 h).2).trans rfl) rfl
theorem zqo_190 {code : ByteArray} {pc : Nat} {w : Nat × Int} (h : zqC (190, 0, w.1, w.2) (code.data.toList.drop pc) = true) : decode code pc = .ok (.arraylength, 1) := zq_dec (by unfold Jvm.ClassFile.Decoder.instr; rw [zq_bind (zqK0 h)]; rfl) rfl
def zqD (i : Instr) : Nat × Nat × Nat × Int := match i with
  | .iconst v => (match v with | -1 => (2, 0, 0, 0) | 0 => (3, 0, 0, 0) | 1 => (4, 0, 0, 0) | 2 => (5, 0, 0, 0) | 3 => (6, 0, 0, 0) | 4 => (7, 0, 0, 0) | 5 => (8, 0, 0, 0) | _ => (0, 9, 0, 0))
  | .lconst n => (match n with | 0 => (9, 0, 0, 0) | 1 => (10, 0, 0, 0))
  | .iaload => (46, 0, 0, 0)
  | .baload => (51, 0, 0, 0)
  | .iastore => (79, 0, 0, 0)
  | .bastore => (84, 0, 0, 0)
  | .pop => (87, 0, 0, 0)
  | .dup => (89, 0, 0, 0)
  | .dup2 => (92, 0, 0, 0)
  | .iadd => (96, 0, 0, 0)
  | .ladd => (97, 0, 0, 0)
  | .isub => (100, 0, 0, 0)
  | .lsub => (101, 0, 0, 0)
  | .imul => (104, 0, 0, 0)
  | .irem => (112, 0, 0, 0)
  | .ishl => (120, 0, 0, 0)
  | .lshl => (121, 0, 0, 0)
  | .ishr => (122, 0, 0, 0)
  | .iushr => (124, 0, 0, 0)
  | .lushr => (125, 0, 0, 0)
  | .iand => (126, 0, 0, 0)
  | .land => (127, 0, 0, 0)
  | .ior => (128, 0, 0, 0)
  | .lor => (129, 0, 0, 0)
  | .ixor => (130, 0, 0, 0)
  | .i2l => (133, 0, 0, 0)
  | .l2i => (136, 0, 0, 0)
  | .i2b => (145, 0, 0, 0)
  | .lcmp => (148, 0, 0, 0)
  | .ireturn => (172, 0, 0, 0)
  | .lreturn => (173, 0, 0, 0)
  | .areturn => (176, 0, 0, 0)
  | .return_ => (177, 0, 0, 0)
  | .arraylength => (190, 0, 0, 0)
  | .iload_n n => (match n with | 0 => (26, 0, 0, 0) | 1 => (27, 0, 0, 0) | 2 => (28, 0, 0, 0) | 3 => (29, 0, 0, 0))
  | .lload_n n => (match n with | 0 => (30, 0, 0, 0) | 1 => (31, 0, 0, 0) | 2 => (32, 0, 0, 0) | 3 => (33, 0, 0, 0))
  | .aload_n n => (match n with | 0 => (42, 0, 0, 0) | 1 => (43, 0, 0, 0) | 2 => (44, 0, 0, 0) | 3 => (45, 0, 0, 0))
  | .istore_n n => (match n with | 0 => (59, 0, 0, 0) | 1 => (60, 0, 0, 0) | 2 => (61, 0, 0, 0) | 3 => (62, 0, 0, 0))
  | .lstore_n n => (match n with | 0 => (63, 0, 0, 0) | 1 => (64, 0, 0, 0) | 2 => (65, 0, 0, 0) | 3 => (66, 0, 0, 0))
  | .astore_n n => (match n with | 0 => (75, 0, 0, 0) | 1 => (76, 0, 0, 0) | 2 => (77, 0, 0, 0) | 3 => (78, 0, 0, 0))
  | .ldc k => (18, 1, k, 0)
  | .iload k => (21, 1, k, 0)
  | .lload k => (22, 1, k, 0)
  | .aload k => (25, 1, k, 0)
  | .istore k => (54, 1, k, 0)
  | .lstore k => (55, 1, k, 0)
  | .astore k => (58, 1, k, 0)
  | .ldc2_w k => (20, 2, k, 0)
  | .getfield k => (180, 2, k, 0)
  | .putfield k => (181, 2, k, 0)
  | .invokevirtual k => (182, 2, k, 0)
  | .invokespecial k => (183, 2, k, 0)
  | .invokestatic k => (184, 2, k, 0)
  | .new k => (187, 2, k, 0)
  | .bipush v => (16, 3, 0, v)
  | .sipush v => (17, 4, 0, v)
  | .goto v => (167, 4, 0, v)
  | .iinc k v => (132, 5, k, v)
  | .ifCond c v => (match c with | .eq => (153, 4, 0, v) | .ne => (154, 4, 0, v) | .lt => (155, 4, 0, v) | .ge => (156, 4, 0, v) | .gt => (157, 4, 0, v) | .le => (158, 4, 0, v))
  | .if_icmp c v => (match c with | .eq => (159, 4, 0, v) | .ne => (160, 4, 0, v) | .lt => (161, 4, 0, v) | .ge => (162, 4, 0, v) | .gt => (163, 4, 0, v) | .le => (164, 4, 0, v))
  | .newarray a => (match a with | .boolean => (188, 1, 4, 0) | .byte => (188, 1, 8, 0) | .int => (188, 1, 10, 0) | _ => (0, 9, 0, 0))
  | _ => (0, 9, 0, 0)
/-- how long: by kind -/
def zqn (k : Nat) : Nat := match k with | 0 => 1 | 1 => 2 | 2 => 3 | 3 => 2 | 4 => 3 | 5 => 3 | _ => 0
theorem zqC9 {l : List UInt8} (h : zqC (0, 9, 0, 0) l = true) : False := by
  unfold zqC zqH at h
  cases l with
  | nil => cases h
  | cons a l => exact Bool.noConfusion (((Bool.and_eq_true_iff).mp h).2)
theorem zq_at {code : ByteArray} {pc : Nat} (i : Instr) (h : zqC (zqD i) (code.data.toList.drop pc) = true) : decode code pc = .ok (i, zqn (zqD i).2.1) := by
  cases i with
  | iconst v =>
    if e : v = -1 then subst e; exact zqo_2 (w := (0, 0)) h else
    if e : v = 0 then subst e; exact zqo_3 (w := (0, 0)) h else
    if e : v = 1 then subst e; exact zqo_4 (w := (0, 0)) h else
    if e : v = 2 then subst e; exact zqo_5 (w := (0, 0)) h else
    if e : v = 3 then subst e; exact zqo_6 (w := (0, 0)) h else
    if e : v = 4 then subst e; exact zqo_7 (w := (0, 0)) h else
    if e : v = 5 then subst e; exact zqo_8 (w := (0, 0)) h else
    exfalso
    refine zqC9 (l := code.data.toList.drop pc) ?_
    have e9 : zqD (.iconst v) = (0, 9, 0, 0) := by
      unfold zqD
      simp only <;> (split <;> first | rfl | omega)
    rw [← e9]
    exact h
  | lconst n => match n, h with | 0, h => exact zqo_9 (w := (0, 0)) h | 1, h => exact zqo_10 (w := (0, 0)) h
  | iaload => exact zqo_46 (w := (0, 0)) h
  | baload => exact zqo_51 (w := (0, 0)) h
  | iastore => exact zqo_79 (w := (0, 0)) h
  | bastore => exact zqo_84 (w := (0, 0)) h
  | pop => exact zqo_87 (w := (0, 0)) h
  | dup => exact zqo_89 (w := (0, 0)) h
  | dup2 => exact zqo_92 (w := (0, 0)) h
  | iadd => exact zqo_96 (w := (0, 0)) h
  | ladd => exact zqo_97 (w := (0, 0)) h
  | isub => exact zqo_100 (w := (0, 0)) h
  | lsub => exact zqo_101 (w := (0, 0)) h
  | imul => exact zqo_104 (w := (0, 0)) h
  | irem => exact zqo_112 (w := (0, 0)) h
  | ishl => exact zqo_120 (w := (0, 0)) h
  | lshl => exact zqo_121 (w := (0, 0)) h
  | ishr => exact zqo_122 (w := (0, 0)) h
  | iushr => exact zqo_124 (w := (0, 0)) h
  | lushr => exact zqo_125 (w := (0, 0)) h
  | iand => exact zqo_126 (w := (0, 0)) h
  | land => exact zqo_127 (w := (0, 0)) h
  | ior => exact zqo_128 (w := (0, 0)) h
  | lor => exact zqo_129 (w := (0, 0)) h
  | ixor => exact zqo_130 (w := (0, 0)) h
  | i2l => exact zqo_133 (w := (0, 0)) h
  | l2i => exact zqo_136 (w := (0, 0)) h
  | i2b => exact zqo_145 (w := (0, 0)) h
  | lcmp => exact zqo_148 (w := (0, 0)) h
  | ireturn => exact zqo_172 (w := (0, 0)) h
  | lreturn => exact zqo_173 (w := (0, 0)) h
  | areturn => exact zqo_176 (w := (0, 0)) h
  | return_ => exact zqo_177 (w := (0, 0)) h
  | arraylength => exact zqo_190 (w := (0, 0)) h
  | iload_n n => match n, h with | 0, h => exact zqo_26 (w := (0, 0)) h | 1, h => exact zqo_27 (w := (0, 0)) h | 2, h => exact zqo_28 (w := (0, 0)) h | 3, h => exact zqo_29 (w := (0, 0)) h
  | lload_n n => match n, h with | 0, h => exact zqo_30 (w := (0, 0)) h | 1, h => exact zqo_31 (w := (0, 0)) h | 2, h => exact zqo_32 (w := (0, 0)) h | 3, h => exact zqo_33 (w := (0, 0)) h
  | aload_n n => match n, h with | 0, h => exact zqo_42 (w := (0, 0)) h | 1, h => exact zqo_43 (w := (0, 0)) h | 2, h => exact zqo_44 (w := (0, 0)) h | 3, h => exact zqo_45 (w := (0, 0)) h
  | istore_n n => match n, h with | 0, h => exact zqo_59 (w := (0, 0)) h | 1, h => exact zqo_60 (w := (0, 0)) h | 2, h => exact zqo_61 (w := (0, 0)) h | 3, h => exact zqo_62 (w := (0, 0)) h
  | lstore_n n => match n, h with | 0, h => exact zqo_63 (w := (0, 0)) h | 1, h => exact zqo_64 (w := (0, 0)) h | 2, h => exact zqo_65 (w := (0, 0)) h | 3, h => exact zqo_66 (w := (0, 0)) h
  | astore_n n => match n, h with | 0, h => exact zqo_75 (w := (0, 0)) h | 1, h => exact zqo_76 (w := (0, 0)) h | 2, h => exact zqo_77 (w := (0, 0)) h | 3, h => exact zqo_78 (w := (0, 0)) h
  | ldc k => exact zqo_18 h
  | iload k => exact zqo_21 h
  | lload k => exact zqo_22 h
  | aload k => exact zqo_25 h
  | istore k => exact zqo_54 h
  | lstore k => exact zqo_55 h
  | astore k => exact zqo_58 h
  | ldc2_w k => exact zqo_20 h
  | getfield k => exact zqo_180 h
  | putfield k => exact zqo_181 h
  | invokevirtual k => exact zqo_182 h
  | invokespecial k => exact zqo_183 h
  | invokestatic k => exact zqo_184 h
  | new k => exact zqo_187 h
  | bipush v => exact zqo_16 h
  | sipush v => exact zqo_17 h
  | goto v => exact zqo_167 h
  | iinc k v => exact zqo_132 h
  | ifCond c v => cases c with | eq => exact zqo_153 h | ne => exact zqo_154 h | lt => exact zqo_155 h | ge => exact zqo_156 h | gt => exact zqo_157 h | le => exact zqo_158 h
  | if_icmp c v => cases c with | eq => exact zqo_159 h | ne => exact zqo_160 h | lt => exact zqo_161 h | ge => exact zqo_162 h | gt => exact zqo_163 h | le => exact zqo_164 h
  | newarray a => cases a with | boolean => exact zqo_188_4 h | byte => exact zqo_188_8 h | int => exact zqo_188_10 h | _ => exact (zqC9 h).elim
  | _ => exact (zqC9 h).elim
theorem zqX {q : Nat × Nat × Nat × Int} {l : List UInt8} {n : Nat} (h : zqC q (zqDr l n) = true) : zqC q (l.drop n) = true := by
  rw [← zqDr_eq]
  exact h
