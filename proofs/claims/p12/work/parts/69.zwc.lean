/-! TRAILS -/
/-- how many places, which, from which hours on, the last one: of where a thing is behind each message -/
def trS (wh hr : Nat → Int) : Nat → Nat × (Nat → Int) × (Nat → Int) × Int
  | 0 => (0, fun _ => 0, fun _ => 0, -2)
  | p + 1 => if wh p = (trS wh hr p).2.2.2 then trS wh hr p else ((trS wh hr p).1 + 1, upi (trS wh hr p).2.1 (trS wh hr p).1 (wh p), upi (trS wh hr p).2.2.1 (trS wh hr p).1 (hr p), wh p)
theorem tr_s {wh hr : Nat → Int} {p : Nat} (h : wh p = (trS wh hr p).2.2.2) : trS wh hr (p + 1) = trS wh hr p := by
  show (if wh p = (trS wh hr p).2.2.2 then trS wh hr p else _) = _
  rw [if_pos h]
theorem tr_n {wh hr : Nat → Int} {p : Nat} (h : ¬ wh p = (trS wh hr p).2.2.2) : trS wh hr (p + 1) = ((trS wh hr p).1 + 1, upi (trS wh hr p).2.1 (trS wh hr p).1 (wh p), upi (trS wh hr p).2.2.1 (trS wh hr p).1 (hr p), wh p) := by
  show (if wh p = (trS wh hr p).2.2.2 then trS wh hr p else _) = _
  rw [if_neg h]
/-- what is laid stays -/
theorem tr_k {wh hr : Nat → Int} {p : Nat} : ∀ d, (trS wh hr p).1 ≤ (trS wh hr (p + d)).1 ∧ ∀ j, j < (trS wh hr p).1 → (trS wh hr (p + d)).2.1 j = (trS wh hr p).2.1 j ∧ (trS wh hr (p + d)).2.2.1 j = (trS wh hr p).2.2.1 j
  | 0 => ⟨Nat.le_refl _, fun _ _ => ⟨rfl, rfl⟩⟩
  | d + 1 => by
    obtain ⟨h1, h2⟩ := tr_k (wh := wh) (hr := hr) (p := p) d
    rw [← Nat.add_assoc]
    if h : wh (p + d) = (trS wh hr (p + d)).2.2.2 then rw [tr_s h]; exact ⟨h1, h2⟩
    else
      rw [tr_n h]
      refine ⟨Nat.le_succ_of_le h1, fun j hj => ?_⟩
      have e := h2 j hj
      show (if j = (trS wh hr (p + d)).1 then wh (p + d) else (trS wh hr (p + d)).2.1 j) = _ ∧ (if j = (trS wh hr (p + d)).1 then hr (p + d) else (trS wh hr (p + d)).2.2.1 j) = _
      rw [if_neg (by omega), if_neg (by omega)]
      exact e
theorem tr_cg {wh hr wh2 hr2 : Nat → Int} : ∀ p, (∀ q, q < p → wh q = wh2 q ∧ hr q = hr2 q) → trS wh hr p = trS wh2 hr2 p
  | 0, _ => rfl
  | p + 1, h => by
    have ih := tr_cg p (fun q hq => h q (by omega))
    obtain ⟨e1, e2⟩ := h p (by omega)
    if c : wh p = (trS wh hr p).2.2.2 then rw [tr_s c, tr_s (by rw [← ih, ← e1]; exact c), ih]
    else rw [tr_n c, tr_n (by rw [← ih, ← e1]; exact c), ih, e1, e2]
def trA (t : Nat × (Nat → Int) × (Nat → Int) × Int) (i w : Int) : Int := if i < (t.1 : Int) then (if w = 0 then t.2.2.1 i.toNat else t.2.1 i.toNat) else -2
theorem ta_y {wh hr : Nat → Int} {p N : Nat} {i w v : Int} (hn : ¬ wh p = (trS wh hr p).2.2.2) (hi : i = ((trS wh hr p).1 : Int)) (hp : p < N) (e : v = if w = 0 then hr p else wh p) : v = trA (trS wh hr N) i w := by
  have k := tr_k (wh := wh) (hr := hr) (p := p + 1) (N - (p + 1))
  rw [show p + 1 + (N - (p + 1)) = N by omega, tr_n hn] at k
  obtain ⟨k1, k2⟩ := k
  have k1 : (trS wh hr p).1 + 1 ≤ (trS wh hr N).1 := k1
  have k3 : (trS wh hr N).2.1 (trS wh hr p).1 = upi (trS wh hr p).2.1 (trS wh hr p).1 (wh p) (trS wh hr p).1 ∧ (trS wh hr N).2.2.1 (trS wh hr p).1 = upi (trS wh hr p).2.2.1 (trS wh hr p).1 (hr p) (trS wh hr p).1 := k2 _ (Nat.lt_succ_self _)
  unfold upi at k3
  rw [if_pos rfl, if_pos rfl] at k3
  unfold trA
  rw [if_pos (by omega), show i.toNat = (trS wh hr p).1 by omega, k3.1, k3.2, e]
theorem ta_n {wh hr : Nat → Int} {N : Nat} {i w v : Int} (hi : ((trS wh hr N).1 : Int) ≤ i) (e : v = -2) : v = trA (trS wh hr N) i w := by
  unfold trA
  rw [if_neg (by omega), e]
