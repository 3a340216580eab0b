/-! TRAILS -/
/-- how many places, which, from which hours on, the last one: of where a thing is behind each message -/
def trS (wh hr : Nat → Int) : Nat → Nat × (Nat → Int) × (Nat → Int) × Int
  | 0 => (0, fun _ => 0, fun _ => 0, -2)
  | p + 1 => if wh p = (trS wh hr p).2.2.2 then trS wh hr p else ((trS wh hr p).1 + 1, upi (trS wh hr p).2.1 (trS wh hr p).1 (wh p), upi (trS wh hr p).2.2.1 (trS wh hr p).1 (hr p), wh p)
theorem tr_s {wh hr : Nat → Int} {p : Nat} (h : wh p = (trS wh hr p).2.2.2) : trS wh hr (p + 1) = trS wh hr p := by
  show (if wh p = (trS wh hr p).2.2.2 then trS wh hr p else _) = _
  rw [if_pos h]
theorem tr_n {wh hr : Nat → Int} {p : Nat} (h : ¬ wh p = (trS wh hr p).2.2.2) : trS wh hr (p + 1) = ((trS wh hr p).1 + 1, upi (trS wh hr p).2.1 (trS wh hr p).1 (wh p), upi (trS wh hr p).2.2.1 (trS wh hr p).1 (hr p), wh p) := by
  show (if wh p = (trS wh hr p).2.2.2 then trS wh hr p else _) = _
  rw [if_neg h]
theorem tr_cg {wh hr wh2 hr2 : Nat → Int} : ∀ p, (∀ q, q < p → wh q = wh2 q ∧ hr q = hr2 q) → trS wh hr p = trS wh2 hr2 p
  | 0, _ => rfl
  | p + 1, h => by
    have ih := tr_cg p (fun q hq => h q (by omega))
    obtain ⟨e1, e2⟩ := h p (by omega)
    if c : wh p = (trS wh hr p).2.2.2 then rw [tr_s c, tr_s (by rw [← ih, ← e1]; exact c), ih]
    else rw [tr_n c, tr_n (by rw [← ih, ← e1]; exact c), ih, e1, e2]
def trA (t : Nat × (Nat → Int) × (Nat → Int) × Int) (i w : Int) : Int := if i < (t.1 : Int) then (if w = 0 then t.2.2.1 i.toNat else t.2.1 i.toNat) else -2
