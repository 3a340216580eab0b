/-! A NEW OBJECT OF THE CLASS, A NEW REFERENCE: their cells, and that the constructors make them (run by the kernel) -/
def zVe (a b : Value) : Bool := match a, b with
  | .int x, .int y => decide (x = y)
  | .ref x, .ref y => Nat.beq x y
  | .null, .null => true
  | _, _ => false
theorem zVe_at {a b : Value} (h : zVe a b = true) : a = b := by
  unfold zVe at h
  split at h
  · rw [of_decide_eq_true h]
  · rw [Nat.eq_of_beq_eq_true h]
  · rfl
  · cases h
def zVl : List Value → List Value → Bool
  | [], [] => true
  | a :: l, b :: m => zVe a b && zVl l m
  | _, _ => false
theorem zVl_at : ∀ {a b : List Value}, zVl a b = true → a = b
  | [], [], _ => rfl
  | a :: l, b :: m, h => by
    simp only [zVl, Bool.and_eq_true] at h
    rw [zVe_at h.1, zVl_at h.2]
  | [], _ :: _, h => by cases h
  | _ :: _, [], h => by cases h
def zIl : List Int32 → List Int32 → Bool
  | [], [] => true
  | a :: l, b :: m => decide (a = b) && zIl l m
  | _, _ => false
theorem zIl_at : ∀ {a b : List Int32}, zIl a b = true → a = b
  | [], [], _ => rfl
  | a :: l, b :: m, h => by
    simp only [zIl, Bool.and_eq_true, decide_eq_true_eq] at h
    rw [h.1, zIl_at h.2]
  | [], _ :: _, h => by cases h
  | _ :: _, [], h => by cases h
def zCe (a b : mzC) : Bool := match a, b with
  | .inl (d, l), .inl (e, m) => Nat.beq d e && zIl l m
  | .inr (d, l), .inr (e, m) => Nat.beq d e && zVl l m
  | _, _ => false
theorem zCe_at {a b : mzC} (h : zCe a b = true) : a = b := by
  unfold zCe at h
  split at h
  · rw [Bool.and_eq_true] at h
    rw [Nat.eq_of_beq_eq_true h.1, zIl_at h.2]
  · rw [Bool.and_eq_true] at h
    rw [Nat.eq_of_beq_eq_true h.1, zVl_at h.2]
  · cases h
def zHe : mzH → mzH → Bool
  | [], [] => true
  | a :: l, b :: m => zCe a b && zHe l m
  | _, _ => false
theorem zHe_at : ∀ {a b : mzH}, zHe a b = true → a = b
  | [], [], _ => rfl
  | a :: l, b :: m, h => by
    simp only [zHe, Bool.and_eq_true] at h
    rw [zCe_at h.1, zHe_at h.2]
  | [], _ :: _, h => by cases h
  | _ :: _, [], h => by cases h
def zRe (a : mzR) (H : mzH) : Bool := match a with
  | some (none, G) => zHe G H
  | _ => false
theorem zRe_at {a : mzR} {H : mzH} (h : zRe a H = true) : a = some (none, H) := by
  unfold zRe at h
  split at h
  · rw [zHe_at h]
  · cases h
def zHx : mzH := [.inr (9, [.ref 1, .ref 3, .ref 11, .ref 19, .ref 24, .ref 43, .ref 54]), .inr (6, [.ref 2, .int 0]), .inl (2, List.replicate 900 0), .inr (1, [.ref 4, .ref 5, .ref 6, .ref 7, .ref 8, .ref 9, .ref 10, .int 0, .int 0, .int 0, .int 10, .int 10, .int 0]), .inl (0, List.replicate 8 0), .inl (0, List.replicate 64 0), .inl (0, List.replicate 60 0), .inl (0, List.replicate 60 0), .inl (0, List.replicate 60 0), .inl (0, List.replicate 60 0), .inl (0, List.replicate 60 0), .inr (1, [.ref 12, .ref 13, .ref 14, .ref 15, .ref 16, .ref 17, .ref 18, .int 0, .int 0, .int 0, .int 10, .int 10, .int 0]), .inl (0, List.replicate 8 0), .inl (0, List.replicate 64 0), .inl (0, List.replicate 60 0), .inl (0, List.replicate 60 0), .inl (0, List.replicate 60 0), .inl (0, List.replicate 60 0), .inl (0, List.replicate 60 0), .inr (4, [.ref 20, .ref 11, .int 0, .int 0, .int 0, .int 0, .int (-1), .int 0]), .inr (7, [.ref 21, .ref 22, .ref 23, .ref 1, .int 0, .int 0, .int 0, .int 0]), .inl (0, List.replicate 901 0), .inl (0, List.replicate 901 0), .inl (0, List.replicate 901 0), .inr (5, [.ref 25, .ref 28, .ref 35, .ref 42, .ref 3]), .inr (2, [.ref 26, .ref 27, .int 0]), .inl (0, List.replicate 60 0), .inl (0, List.replicate 60 0), .inr (8, [.ref 29, .ref 30, .ref 31, .ref 32, .ref 33, .ref 34]), .inl (0, List.replicate 40 0), .inl (0, List.replicate 40 0), .inl (0, List.replicate 40 0), .inl (0, List.replicate 40 0), .inl (0, List.replicate 40 0), .inl (0, List.replicate 40 0), .inr (8, [.ref 36, .ref 37, .ref 38, .ref 39, .ref 40, .ref 41]), .inl (0, List.replicate 40 0), .inl (0, List.replicate 40 0), .inl (0, List.replicate 40 0), .inl (0, List.replicate 40 0), .inl (0, List.replicate 40 0), .inl (0, List.replicate 40 0), .inl (0, List.replicate 60 0), .inr (3, [.ref 44, .ref 51, .ref 24, .ref 3, .int 0, .int 0, .int 0]), .inr (8, [.ref 45, .ref 46, .ref 47, .ref 48, .ref 49, .ref 50]), .inl (0, List.replicate 40 0), .inl (0, List.replicate 40 0), .inl (0, List.replicate 40 0), .inl (0, List.replicate 40 0), .inl (0, List.replicate 40 0), .inl (0, List.replicate 40 0), .inr (2, [.ref 52, .ref 53, .int 0]), .inl (0, List.replicate 60 0), .inl (0, List.replicate 60 0), .inr (0, [.ref 55, .ref 62, .ref 69, .ref 3, .ref 25, .int 0, .int 0, .int 0, .int 0, .int 0, .int 0, .int 0]), .inr (8, [.ref 56, .ref 57, .ref 58, .ref 59, .ref 60, .ref 61]), .inl (0, List.replicate 40 0), .inl (0, List.replicate 40 0), .inl (0, List.replicate 40 0), .inl (0, List.replicate 40 0), .inl (0, List.replicate 40 0), .inl (0, List.replicate 40 0), .inr (8, [.ref 63, .ref 64, .ref 65, .ref 66, .ref 67, .ref 68]), .inl (0, List.replicate 40 0), .inl (0, List.replicate 40 0), .inl (0, List.replicate 40 0), .inl (0, List.replicate 40 0), .inl (0, List.replicate 40 0), .inl (0, List.replicate 40 0), .inr (8, [.ref 70, .ref 71, .ref 72, .ref 73, .ref 74, .ref 75]), .inl (0, List.replicate 40 0), .inl (0, List.replicate 40 0), .inl (0, List.replicate 40 0), .inl (0, List.replicate 40 0), .inl (0, List.replicate 40 0), .inl (0, List.replicate 40 0)]
def zHm : mzH := [.inr (10, [.int 0, .ref 1, .int 0, .ref 2, .ref 3, .ref 4, .ref 5, .int 0, .int 0, .int 0, .int 0, .int 0, .int 0, .int 0, .int 0, .int 0, .int (-1), .int 0, .int 0, .int 0, .ref 6, .ref 7, .ref 8, .ref 9, .ref 10, .ref 11, .ref 12, .ref 13, .ref 14, .ref 15, .ref 16, .ref 17, .ref 18, .ref 19, .int 0, .ref 20, .ref 21, .ref 22, .ref 23, .int 0, .ref 24, .int 0, .int 0, .int 0, .ref 25]), .inl (0, List.replicate 900 0), .inl (0, [0, 0, 0, 10, 10, 0, 100000, 100000, 100000, 100000, 100000, 100000, 100000, 100000, 0, 100000, 100000, 100000, 100000, 100000, 100000, 100000, 100000, 0, 100000, 100000, 100000, 100000, 100000, 100000, 100000, 100000, 0, 100000, 100000, 100000, 100000, 100000, 100000, 100000, 100000, 0, 100000, 100000, 100000, 100000, 100000, 100000, 100000, 100000, 0, 100000, 100000, 100000, 100000, 100000, 100000, 100000, 100000, 0, 100000, 100000, 100000, 100000, 100000, 100000, 100000, 100000, 0, 0, 0, 0, 0, 0, 0, 0, 0, 0, 0, 0, 0, 0, 0, 0, 0, 0, 0, 0, 0, 0, 0, 0, 0, 0, 0, 0, 0, 0, 0, 0, 0, 0, 0, 0, 0, 0, 0, 0, 0, 0, 0, 0, 0, 0, 0, 0, 0, 0, 0, 0, 0, 0, 0, 0, 0, 0, 0, 0, 0, 0, 0, 0, 0, 0, 0, 0, 0, 0, 0, 0, 0, 0, 0, 0, 0, 0, 0, 0, 0, 0, 0, 0, 0, 0, 0, 0, 0, 0, 0, 0, 0, 0, 0, 0, 0, 0, 0, 0, 0, 0, 0, 0, 0, 0, 0, 0, 0, 0, 0, 0, 0, 0, 0, 0, 0, 0, 0, 0, 0, 0, 0, 0, 0, 0, 0, 0, 0, 0, 0, 0, 0, 0, 0, 0, 0, 0, 0, 0, 0, 0, 0, 0, 0, 0, 0, 0, 0, 0, 0, 0, 0, 0, 0, 0, 0, 0, 0, 0, 0, 0, 0, 0, 0, 0, 0, 0, 0, 0, 0, 0, 0, 0, 0, 0, 0, 0, 0, 0, 0, 0, 0, 0, 0, 0, 0, 0, 0, 0, 0, 0, 0, 0, 0, 0, 0, 0, 0, 0, 0, 0, 0, 0, 0, 0, 0, 0, 0, 0, 0, 0, 0, 0, 0, 0, 0, 0, 0, 0, 0, 0, 0, 0, 0, 0, 0, 0, 0, 0, 0, 0, 0, 0, 0, 0, 0, 0, 0, 0, 0, 0, 0, 0, 0, 0, 0, 0, 0, 0, 0, 0, 0, 0, 0, 0, 0, 0, 0, 0, 0, 0, 0, 0, 0, 0, 0, 0, 0, 0, 0, 0, 0, 0, 0, 0, 0, 0, 0, 0, 0, 0, 0, 0, 0, 0, 0, 0, 0, 0, 0, 0, 0, 0, 0, 0, 0, 0, 0, 0, 0]), .inl (0, [0, 0, 0, 10, 10, 0, 100000, 100000, 100000, 100000, 100000, 100000, 100000, 100000, 0, 100000, 100000, 100000, 100000, 100000, 100000, 100000, 100000, 0, 100000, 100000, 100000, 100000, 100000, 100000, 100000, 100000, 0, 100000, 100000, 100000, 100000, 100000, 100000, 100000, 100000, 0, 100000, 100000, 100000, 100000, 100000, 100000, 100000, 100000, 0, 100000, 100000, 100000, 100000, 100000, 100000, 100000, 100000, 0, 100000, 100000, 100000, 100000, 100000, 100000, 100000, 100000, 0, 0, 0, 0, 0, 0, 0, 0, 0, 0, 0, 0, 0, 0, 0, 0, 0, 0, 0, 0, 0, 0, 0, 0, 0, 0, 0, 0, 0, 0, 0, 0, 0, 0, 0, 0, 0, 0, 0, 0, 0, 0, 0, 0, 0, 0, 0, 0, 0, 0, 0, 0, 0, 0, 0, 0, 0, 0, 0, 0, 0, 0, 0, 0, 0, 0, 0, 0, 0, 0, 0, 0, 0, 0, 0, 0, 0, 0, 0, 0, 0, 0, 0, 0, 0, 0, 0, 0, 0, 0, 0, 0, 0, 0, 0, 0, 0, 0, 0, 0, 0, 0, 0, 0, 0, 0, 0, 0, 0, 0, 0, 0, 0, 0, 0, 0, 0, 0, 0, 0, 0, 0, 0, 0, 0, 0, 0, 0, 0, 0, 0, 0, 0, 0, 0, 0, 0, 0, 0, 0, 0, 0, 0, 0, 0, 0, 0, 0, 0, 0, 0, 0, 0, 0, 0, 0, 0, 0, 0, 0, 0, 0, 0, 0, 0, 0, 0, 0, 0, 0, 0, 0, 0, 0, 0, 0, 0, 0, 0, 0, 0, 0, 0, 0, 0, 0, 0, 0, 0, 0, 0, 0, 0, 0, 0, 0, 0, 0, 0, 0, 0, 0, 0, 0, 0, 0, 0, 0, 0, 0, 0, 0, 0, 0, 0, 0, 0, 0, 0, 0, 0, 0, 0, 0, 0, 0, 0, 0, 0, 0, 0, 0, 0, 0, 0, 0, 0, 0, 0, 0, 0, 0, 0, 0, 0, 0, 0, 0, 0, 0, 0, 0, 0, 0, 0, 0, 0, 0, 0, 0, 0, 0, 0, 0, 0, 0, 0, 0, 0, 0, 0, 0, 0, 0, 0, 0, 0, 0, 0, 0, 0, 0, 0, 0, 0, 0, 0, 0, 0, 0, 0, 0, 0, 0, 0, 0, 0, 0, 0, 0, 0]), .inl (0, List.replicate 8 0), .inl (0, List.replicate 8 0), .inl (0, [0, 100000, 100000, 100000, 100000, 100000, 100000, 100000, 100000, 0, 100000, 100000, 100000, 100000, 100000, 100000, 100000, 100000, 0, 100000, 100000, 100000, 100000, 100000, 100000, 100000, 100000, 0, 100000, 100000, 100000, 100000, 100000, 100000, 100000, 100000, 0, 100000, 100000, 100000, 100000, 100000, 100000, 100000, 100000, 0, 100000, 100000, 100000, 100000, 100000, 100000, 100000, 100000, 0, 100000, 100000, 100000, 100000, 100000, 100000, 100000, 100000, 0]), .inl (1, List.replicate 40 0), .inl (0, List.replicate 40 0), .inl (0, List.replicate 40 0), .inl (0, List.replicate 40 0), .inl (0, List.replicate 40 0), .inl (0, List.replicate 40 0), .inl (1, List.replicate 40 0), .inl (1, List.replicate 40 0), .inl (1, List.replicate 40 0), .inl (1, List.replicate 40 0), .inl (1, List.replicate 60 0), .inl (0, List.replicate 60 0), .inl (0, List.replicate 60 0), .inl (0, List.replicate 60 0), .inl (1, List.replicate 40 0), .inl (0, List.replicate 61 0), .inl (0, List.replicate 61 0), .inl (0, List.replicate 40 0), .inl (1, List.replicate 40 0)]
set_option maxRecDepth 1000000 in
theorem zHx_run : zRe (zEx 3000 (zN 112) (zB 112) (mzBlk (zB 112) 0) (lv_args 0 [.ref 0]) [] [.inr (9, zD 9)] (zmc 112) (zms 112)) zHx = true := by decide +kernel
set_option maxRecDepth 1000000 in
theorem zHm_run : zRe (zEx 200000 (zN 154) (zB 154) (mzBlk (zB 154) 0) (lv_args 0 [.ref 0]) [] [.inr (10, zD 10)] (zmc 154) (zms 154)) zHm = true := by decide +kernel
