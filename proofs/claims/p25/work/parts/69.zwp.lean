/-! FROM ONE PLACE TO ANOTHER -/
def smF (f : Nat → Int) : Nat → Int
  | 0 => 0
  | n + 1 => smF f n + f n
theorem smf_0 {f : Nat → Int} {k : Nat} {n : Int} (e : k = 0) (h : n = 0) : n = smF f k := by
  subst e
  exact h
theorem sm_s {f : Nat → Int} {k k2 : Nat} {n m : Int} (q : n = smF f k) (e : k2 = k + 1) (h : m = n + f k) : m = smF f k2 := by
  subst e
  show m = smF f k + f k
  omega
theorem sm_cg {f g : Nat → Int} : ∀ n, (∀ k, k < n → f k = g k) → smF f n = smF g n
  | 0, _ => rfl
  | n + 1, h => by
    show smF f n + f n = smF g n + g n
    rw [sm_cg n (fun k hk => h k (by omega)), h n (by omega)]
theorem sm_add {f g : Nat → Int} : ∀ n, smF (fun k => f k + g k) n = smF f n + smF g n
  | 0 => rfl
  | n + 1 => by
    show smF (fun k => f k + g k) n + (f n + g n) = smF f n + f n + (smF g n + g n)
    rw [sm_add n]
    omega
theorem sm_z : ∀ n, smF (fun _ => 0) n = 0
  | 0 => rfl
  | n + 1 => by
    show smF (fun _ => 0) n + 0 = 0
    rw [sm_z n]
    rfl
theorem sm_sw {f : Nat → Nat → Int} (n : Nat) : ∀ m, smF (fun a => smF (fun b => f a b) m) n = smF (fun b => smF (fun a => f a b) n) m
  | 0 => sm_z n
  | m + 1 => by
    show smF (fun a => smF (fun b => f a b) m + f a m) n = smF (fun b => smF (fun a => f a b) n) m + smF (fun a => f a m) n
    rw [sm_add, sm_sw n m]
theorem cnt_sm {P : Nat → Prop} [DecidablePred P] : ∀ n, cnt P n = smF (fun x => if P x then 1 else 0) n
  | 0 => rfl
  | n + 1 => by
    show cnt P n + _ = smF _ n + _
    rw [cnt_sm n]
/-- how often a trail goes from a to b -/
def trC (t : Nat × (Nat → Int) × (Nat → Int) × Int) (a b : Int) : Int := cnt (fun i => t.2.1 i = a ∧ t.2.1 (i + 1) = b) (t.1 - 1)
def pvF (wh : Nat → Int) : Nat → Int
  | 0 => -2
  | q + 1 => wh q
theorem tr_last {wh hr : Nat → Int} : ∀ p, (trS wh hr p).2.2.2 = pvF wh p ∧ ((trS wh hr p).1 = 0 ∧ (trS wh hr p).2.2.2 = -2 ∨ 0 < (trS wh hr p).1 ∧ (trS wh hr p).2.1 ((trS wh hr p).1 - 1) = (trS wh hr p).2.2.2)
  | 0 => ⟨rfl, Or.inl ⟨rfl, rfl⟩⟩
  | p + 1 => by
    obtain ⟨h1, h2⟩ := tr_last (wh := wh) (hr := hr) p
    if c : wh p = (trS wh hr p).2.2.2 then
      rw [tr_s c]
      exact ⟨c.symm, h2⟩
    else
      rw [tr_n c]
      refine ⟨rfl, Or.inr ⟨Nat.succ_pos _, ?_⟩⟩
      show upi (trS wh hr p).2.1 (trS wh hr p).1 (wh p) ((trS wh hr p).1 + 1 - 1) = wh p
      unfold upi
      rw [if_pos (by omega)]
theorem tr_fl {wh hr : Nat → Int} {a b : Int} (ha : a ≠ -2) (hab : a ≠ b) : ∀ p, trC (trS wh hr p) a b = smF (fun q => if pvF wh q = a ∧ wh q = b then 1 else 0) p
  | 0 => rfl
  | p + 1 => by
    obtain ⟨h1, h2⟩ := tr_last (wh := wh) (hr := hr) p
    have ih := tr_fl (wh := wh) (hr := hr) ha hab p
    show _ = smF (fun q => if pvF wh q = a ∧ wh q = b then 1 else 0) p + (if pvF wh p = a ∧ wh p = b then 1 else 0)
    rw [← ih]
    if c : wh p = (trS wh hr p).2.2.2 then
      rw [tr_s c, if_neg (fun z => hab (by rw [← z.1, ← z.2, ← h1, c]))]
      omega
    else
      rw [tr_n c]
      rcases h2 with ⟨z1, z2⟩ | ⟨z1, z2⟩
      · rw [if_neg (fun z => ha (by rw [← z.1, ← h1, z2]))]
        unfold trC
        show cnt _ ((trS wh hr p).1 + 1 - 1) = cnt _ ((trS wh hr p).1 - 1) + 0
        rw [z1]
        rfl
      · have e : (trS wh hr p).1 + 1 - 1 = (trS wh hr p).1 - 1 + 1 := by omega
        unfold trC
        show cnt (fun i => upi (trS wh hr p).2.1 (trS wh hr p).1 (wh p) i = a ∧ upi (trS wh hr p).2.1 (trS wh hr p).1 (wh p) (i + 1) = b) ((trS wh hr p).1 + 1 - 1) = _
        rw [e]
        show cnt _ ((trS wh hr p).1 - 1) + (if _ then 1 else 0) = _
        have e1 : cnt (fun i => upi (trS wh hr p).2.1 (trS wh hr p).1 (wh p) i = a ∧ upi (trS wh hr p).2.1 (trS wh hr p).1 (wh p) (i + 1) = b) ((trS wh hr p).1 - 1) = cnt (fun i => (trS wh hr p).2.1 i = a ∧ (trS wh hr p).2.1 (i + 1) = b) ((trS wh hr p).1 - 1) := cnt_cg (fun i hi => by
          unfold upi
          rw [if_neg (by omega), if_neg (by omega)])
        have e2 : (upi (trS wh hr p).2.1 (trS wh hr p).1 (wh p) ((trS wh hr p).1 - 1) = a ∧ upi (trS wh hr p).2.1 (trS wh hr p).1 (wh p) ((trS wh hr p).1 - 1 + 1) = b) ↔ (pvF wh p = a ∧ wh p = b) := by
          unfold upi
          rw [if_neg (by omega), if_pos (by omega), z2, h1]
        rw [e1]
        if y : pvF wh p = a ∧ wh p = b then rw [if_pos (e2.mpr y), if_pos y]
        else rw [if_neg (fun z => y (e2.mp z)), if_neg y]
theorem is_andd {a b w : Int64} {P Q : Nat → Prop} (ha : isS a P 40) (hb : isS b Q 40) (o : w = a &&& b) : isS w (fun x => P x ∧ Q x) 40 := fun k hk => by
  rw [lbi_and o]
  have h1 := ha k hk
  have h2 := hb k hk
  if z : lbi a k = 1 ∧ lbi b k = 1 then
    rw [if_pos z]
    exact ⟨fun _ => ⟨(h1.mp z.1).1, (h1.mp z.1).2, (h2.mp z.2).2⟩, fun _ => rfl⟩
  else
    rw [if_neg z]
    exact ⟨fun y => absurd y (by decide), fun y => absurd ⟨h1.mpr ⟨y.1, y.2.1⟩, h2.mpr ⟨y.1, y.2.2⟩⟩ z⟩
