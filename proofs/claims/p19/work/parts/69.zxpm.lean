/-! TOGETHER -/
/-- a set, and all with the same topmost one as one of it (the class; the reference) -/
def coC (s : pS) (P : Nat → Prop) (x : Nat) : Prop := P x ∨ ∃ y, y < 40 ∧ P y ∧ ¬ s.en y = 1 ∧ tp s y = tp s x
def coR (s : pS) (md : Nat → Int) (P : Nat → Prop) (x : Nat) : Prop := P x ∨ (¬ md x = 0 ∧ s.en x = 0 ∧ ∃ y, y < 40 ∧ P y ∧ ¬ md y = 0 ∧ s.en y = 0 ∧ tp s y = tp s x)
def mtC (f : Nat → pS) (n p : Nat) : Nat → Nat → Prop
  | 0 => coC (f p) (fun x => x = n)
  | k + 1 => coC (f (p + k + 1)) (mtC f n p k)
def mtR (f : Nat → pS × (Nat → Int)) (n p : Nat) : Nat → Nat → Prop
  | 0 => coR (f p).1 (f p).2 (fun x => x = n)
  | k + 1 => coR (f (p + k + 1)).1 (f (p + k + 1)).2 (mtR f n p k)
/-- alike in one world -/
theorem co_eq {s r : pS} {md : Nat → Int} {P Q : Nat → Prop} (hr : wRS s r md) (hw : wfS 8 s) (e : ∀ x, x < 40 → (P x ↔ Q x)) (m : ∀ x, x < 40 → P x → s.kd x ≠ -1) : ∀ x, x < 40 → ((coC s P x ↔ coR r md Q x) ∧ (coC s P x → s.kd x ≠ -1)) := fun x hx => by
  have kx := hr x hx
  have bx := (hw x hx).1.2.2.1
  have key : (∃ y, y < 40 ∧ P y ∧ ¬ s.en y = 1 ∧ tp s y = tp s x) → s.kd x ≠ -1 ∧ s.en x = 0 := by
    rintro ⟨y, y1, y2, y3, y4⟩
    have by_ := (hw y y1).1.2.2.1
    obtain ⟨t1, t2, t3, t4⟩ := tp_ok hw y1 (m y y1 y2) (by omega)
    rw [y4] at t1 t2 t3 t4
    -- x itself: topmost or inside something
    obtain ⟨_, _, a3, a4, _⟩ := hw x hx
    rcases a3 with a | ⟨a1, a2, a5, a6, a7, a8⟩
    · rw [top_e a] at t2 t3
      exact ⟨t2, t3⟩
    · exact ⟨by omega, a7⟩
  constructor
  · constructor
    · rintro (h | h)
      · exact Or.inl ((e x hx).mp h)
      · obtain ⟨z1, z2⟩ := key h
        obtain ⟨y, y1, y2, y3, y4⟩ := h
        have ky := hr y y1
        have by_ := (hw y y1).1.2.2.1
        have my := m y y1 y2
        refine Or.inr ⟨by omega, by omega, y, y1, (e y y1).mp y2, by omega, by omega, ?_⟩
        rw [tp_cg hr (wf_dpt hw) y1, tp_cg hr (wf_dpt hw) hx]
        exact y4
    · rintro (h | ⟨h1, h2, y, y1, y2, y3, y4, y5⟩)
      · exact Or.inl ((e x hx).mpr h)
      · have ky := hr y y1
        refine Or.inr ⟨y, y1, (e y y1).mpr y2, by omega, ?_⟩
        rw [tp_cg hr (wf_dpt hw) y1, tp_cg hr (wf_dpt hw) hx] at y5
        exact y5
  · rintro (h | h)
    · exact m x hx h
    · exact (key h).1
theorem mt_eq {f : Nat → pS} {g : Nat → pS × (Nat → Int)} {n p : Nat} (N : Nat) (hw : ∀ q, q ≤ N → wRS (f q) (g q).1 (g q).2 ∧ wfS 8 (f q)) (mk : ∀ x q, (f q).kd x ≠ -1 → (f (q + 1)).kd x ≠ -1) (h0 : (f p).kd n ≠ -1) : ∀ k, p + k ≤ N → ∀ x, x < 40 → ((mtC f n p k x ↔ mtR g n p k x) ∧ (mtC f n p k x → (f (p + k)).kd x ≠ -1))
  | 0, h, x, hx => co_eq (hw p (by omega)).1 (hw p (by omega)).2 (fun x _ => Iff.rfl) (fun x _ e => by rw [e]; exact h0) x hx
  | k + 1, h, x, hx => by
    have ih := mt_eq N hw mk h0 k (by omega)
    exact co_eq (hw (p + k + 1) (by omega)).1 (hw (p + k + 1) (by omega)).2 (fun x hx => (ih x hx).1) (fun x hx e => mk x (p + k) ((ih x hx).2 e)) x hx
theorem is_top {v : Int64} {P : Nat → Prop} {s : pS} {x k : Nat} (h : ∀ k : Nat, k < 64 → (lbi v k = 1 ↔ ∃ q : Nat, q < 40 ∧ tp s q = k ∧ P q)) (hk : k = tp s x) (hb : k < 64) : lbi v k = 1 ↔ ∃ y, y < 40 ∧ P y ∧ tp s y = tp s x := by
  rw [h k hb, hk]
  exact ⟨fun ⟨q, q1, q2, q3⟩ => ⟨q, q1, q3, q2⟩, fun ⟨q, q1, q2, q3⟩ => ⟨q, q1, q3, q2⟩⟩
theorem co_0 {v : Int64} {P Q : Nat → Prop} {x : Nat} (h : isS v P 40) (e : x = 0) : ∀ k : Nat, k < 64 → (lbi v k = 1 ↔ (k < 40 ∧ P k) ∨ (k < x ∧ Q k)) := fun k hk => by
  rw [h k hk]
  exact ⟨Or.inl, fun z => z.elim id (fun y => by omega)⟩
theorem co_y {a s one w : Int64} {b : Int32} {P Q : Nat → Prop} {x x2 : Nat} (h : ∀ k : Nat, k < 64 → (lbi a k = 1 ↔ (k < 40 ∧ P k) ∨ (k < x ∧ Q k))) (o1 : s = one <<< (b.toInt64 &&& 63)) (oo : one = Int64.ofNat 1) (ow : w = a ||| s) (hb : 0 ≤ b.toInt ∧ b.toInt ≤ 63) (eb : b.toInt.toNat = x) (e : x2 = x + 1) (d : Q x) : ∀ k : Nat, k < 64 → (lbi w k = 1 ↔ (k < 40 ∧ P k) ∨ (k < x2 ∧ Q k)) := fun k hk => by
  rw [is_add h o1 oo ow hb k hk, eb, e]
  constructor
  · rintro ((z | z) | z)
    · exact Or.inl z
    · exact Or.inr ⟨by omega, z.2⟩
    · rw [z]
      exact Or.inr ⟨by omega, d⟩
  · rintro (z | z)
    · exact Or.inl (Or.inl z)
    · if c : k = x then exact Or.inr c
      else exact Or.inl (Or.inr ⟨by omega, z.2⟩)
theorem co_n {a : Int64} {P Q : Nat → Prop} {x x2 : Nat} (h : ∀ k : Nat, k < 64 → (lbi a k = 1 ↔ (k < 40 ∧ P k) ∨ (k < x ∧ Q k))) (e : x2 = x + 1) (d : ¬ Q x) : ∀ k : Nat, k < 64 → (lbi a k = 1 ↔ (k < 40 ∧ P k) ∨ (k < x2 ∧ Q k)) := fun k hk => by
  rw [h k hk, e]
  constructor
  · rintro (z | z)
    · exact Or.inl z
    · exact Or.inr ⟨by omega, z.2⟩
  · rintro (z | z)
    · exact Or.inl z
    · if c : k = x then rw [c] at z; exact absurd z.2 d
      else exact Or.inr ⟨by omega, z.2⟩
theorem co_end {v : Int64} {s : pS} {P : Nat → Prop} {x : Nat} (h : ∀ k : Nat, k < 64 → (lbi v k = 1 ↔ (k < 40 ∧ P k) ∨ (k < x ∧ ∃ y, y < 40 ∧ (P y ∧ ¬ s.en y = 1) ∧ tp s y = tp s k))) (e : x = 40) : isS v (coC s P) 40 := fun k hk => by
  rw [h k hk, e]
  constructor
  · rintro (z | ⟨z1, y, y1, y2, y3⟩)
    · exact ⟨z.1, Or.inl z.2⟩
    · exact ⟨z1, Or.inr ⟨y, y1, y2.1, y2.2, y3⟩⟩
  · rintro ⟨z1, z2 | ⟨y, y1, y2, y3, y4⟩⟩
    · exact Or.inl ⟨z1, z2⟩
    · exact Or.inr ⟨z1, y, y1, ⟨y2, y3⟩, y4⟩
/-- one alone, as a set -/
theorem is_one {v one : Int64} {b : Int32} (o : v = one <<< (b.toInt64 &&& 63)) (oo : one = Int64.ofNat 1) (hb : 0 ≤ b.toInt ∧ b.toInt ≤ 39) : isS v (fun x => x = b.toInt.toNat) 40 := fun k hk => by
  rw [lbi_shl o oo (by omega) hk]
  split
  · rename_i z
    exact ⟨fun _ => ⟨by omega, z⟩, fun _ => rfl⟩
  · rename_i z
    exact ⟨fun y => absurd y (by decide), fun y => absurd y.2 z⟩
theorem co_it {v : Int64} {s : pS} {P Q : Nat → Prop} (h : isS v (coC s P) 40) (e : ∀ x, coC s P x ↔ Q x) : isS v Q 40 := is_cg h e
