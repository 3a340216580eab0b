/-! THE MINI MACHINE: the bytecode of class and reference run over a heap of cells by number. A run of it that ends is a walk of the machine itself (part 12). -/
/-- a cell: an array of small ints (0 int, 1 boolean, 2 byte), or an object (the number of its class, its fields); a reference is a cell's number -/
abbrev mzC : Type := (Nat × List Int32) ⊕ (Nat × List Value)
abbrev mzH : Type := List mzC
abbrev mzL : Type := List (Nat × Value)
/-- pc, instruction, two numbers (a block, a field, a callee ..), a list of numbers -/
abbrev mzO : Type := Nat × Instr × Nat × Nat × List Nat
abbrev mzB : Type := List (List mzO)
abbrev mzR : Type := Option (Option Value × mzH)
/-- a way to go on: locals, stack, heap, cells left, slots left -/
abbrev mzK : Type := mzL → List Value → mzH → Nat → Nat → mzR
