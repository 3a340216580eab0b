/-! TOGETHER -/
/-- a set, and all with the same topmost one as one of it (the class; the reference) -/
def coC (s : pS) (P : Nat → Prop) (x : Nat) : Prop := P x ∨ ∃ y, y < 40 ∧ P y ∧ ¬ s.en y = 1 ∧ tp s y = tp s x
def coR (s : pS) (md : Nat → Int) (P : Nat → Prop) (x : Nat) : Prop := P x ∨ (¬ md x = 0 ∧ s.en x = 0 ∧ ∃ y, y < 40 ∧ P y ∧ ¬ md y = 0 ∧ s.en y = 0 ∧ tp s y = tp s x)
def mtC (f : Nat → pS) (n p : Nat) : Nat → Nat → Prop
  | 0 => coC (f p) (fun x => x = n)
  | k + 1 => coC (f (p + k + 1)) (mtC f n p k)
def mtR (f : Nat → pS × (Nat → Int)) (n p : Nat) : Nat → Nat → Prop
  | 0 => coR (f p).1 (f p).2 (fun x => x = n)
  | k + 1 => coR (f (p + k + 1)).1 (f (p + k + 1)).2 (mtR f n p k)
