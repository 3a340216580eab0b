/-! THE MINI MACHINE: the bytecode of class and reference run over a heap of cells by number. A run of it that ends is a walk of the machine itself (part 12). -/
/-- a cell: an array of small ints (0 int, 1 boolean, 2 byte), or an object (the number of its class, its fields); a reference is a cell's number -/
abbrev mzC : Type := (Nat × List Int32) ⊕ (Nat × List Value)
abbrev mzH : Type := List mzC
abbrev mzL : Type := List (Nat × Value)
/-- pc, instruction, two numbers (a block, a field, a callee ..), a list of numbers -/
abbrev mzO : Type := Nat × Instr × Nat × Nat × List Nat
abbrev mzB : Type := List (List mzO)
abbrev mzR : Type := Option (Option Value × mzH)
/-- a way to go on: locals, stack, heap, cells left, slots left -/
abbrev mzK : Type := mzL → List Value → mzH → Nat → Nat → mzR
def mzNth {α : Type} : List α → Nat → Option α
  | [], _ => none
  | a :: _, 0 => some a
  | _ :: l, n + 1 => mzNth l n
theorem mzNth_eq {α : Type} : ∀ (l : List α) (n : Nat), mzNth l n = l[n]?
  | [], n => by simp [mzNth]
  | a :: l, 0 => by simp [mzNth]
  | a :: l, n + 1 => by simp [mzNth, mzNth_eq l n]
def mzPc : List mzO → Nat
  | [] => 0
  | q :: _ => q.1
def mzBlk (bl : mzB) (x : Nat) : List mzO := (mzNth bl x).getD []
