/-! WHICH TWO ARE TO BLAME -/
/-- how many are refused without those at spots p and q -/
def tT (H : mzH) (p q : Nat) : Int := rfL H (hoX H) (bhL (bhL (olF p (odX H)) (odX H) (p + 1) q) (odX H) (q + 1) (fZ H 25 2).toInt.toNat)
def mnX (H : mzH) (p q : Nat) : Int := if (odX H p : Int) ≤ (odX H q : Int) then (odX H p : Int) else (odX H q : Int)
def mxX (H : mzH) (p q : Nat) : Int := if (odX H p : Int) ≤ (odX H q : Int) then (odX H q : Int) else (odX H p : Int)
theorem mn_of {H : mzH} {p q : Nat} {a b v w : Int} (ha : a = (odX H p : Int)) (hb : b = (odX H q : Int)) (h1 : v ≤ a ∧ v ≤ b ∧ (v = a ∨ v = b)) (h2 : a ≤ w ∧ b ≤ w ∧ (w = a ∨ w = b)) : v = mnX H p q ∧ w = mxX H p q := by
  unfold mnX mxX
  if c : (odX H p : Int) ≤ (odX H q : Int) then
    rw [if_pos c, if_pos c]
    omega
  else
    rw [if_neg c, if_neg c]
    omega
/-- pairs of spots ahead of (p, q) -/
def prP (p q u v : Nat) : Prop := u < p ∨ (u = p ∧ v < q)
/-- of the pairs of spots ahead of (p, q): whose leaving out leaves least, the first of them -/
def blT (H : mzH) (p q : Nat) (o1 o2 l : Int) : Prop := ((∀ u v, u < v → v < (fZ H 25 2).toInt.toNat → ¬ prP p q u v) ∧ l = 60) ∨ (∃ x y, x < y ∧ y < (fZ H 25 2).toInt.toNat ∧ o1 = mnX H x y ∧ o2 = mxX H x y ∧ l = tT H x y ∧ ∀ u v, u < v → v < (fZ H 25 2).toInt.toNat → prP p q u v → l < tT H u v ∨ (l = tT H u v ∧ (o1 < mnX H u v ∨ (o1 = mnX H u v ∧ o2 ≤ mxX H u v))))
theorem bt_0 {H : mzH} {p q : Nat} {o1 o2 l : Int} (hp : p = 0) (hq : q = 1) (h : l = 60) : blT H p q o1 o2 l := by
  subst hp hq
  exact Or.inl ⟨fun u v h1 h2 z => by
    unfold prP at z
    omega, h⟩
/-- the next row -/
theorem bt_r {H : mzH} {p q p2 q2 : Nat} {o1 o2 l : Int} (h : blT H p q o1 o2 l) (hq : (fZ H 25 2).toInt.toNat ≤ q) (hp : p2 = p + 1) (hq2 : q2 = p2 + 1) : blT H p2 q2 o1 o2 l := by
  subst hp hq2
  have e : ∀ u v, u < v → v < (fZ H 25 2).toInt.toNat → (prP (p + 1) (p + 1 + 1) u v → prP p q u v) := fun u v h1 h2 z => by
    unfold prP at *
    omega
  rcases h with ⟨a, b⟩ | ⟨x, y, h1, h2, h3, h4, h5, h6⟩
  · exact Or.inl ⟨fun u v u1 u2 z => a u v u1 u2 (e u v u1 u2 z), b⟩
  · exact Or.inr ⟨x, y, h1, h2, h3, h4, h5, fun u v u1 u2 z => h6 u v u1 u2 (e u v u1 u2 z)⟩
theorem tT_b {H : mzH} {p q : Nat} (hp : p < q) (hq : q < (fZ H 25 2).toInt.toNat) (h6 : (fZ H 25 2).toInt ≤ 60) : tT H p q ≤ 58 := by
  have b := (rfL_b (H := H) (hr := hoX H) (l := bhL (bhL (olF p (odX H)) (odX H) (p + 1) q) (odX H) (q + 1) (fZ H 25 2).toInt.toNat)).2
  have e : (bhL (bhL (olF p (odX H)) (odX H) (p + 1) q) (odX H) (q + 1) (fZ H 25 2).toInt.toNat).length = p + (q - (p + 1)) + ((fZ H 25 2).toInt.toNat - (q + 1)) := by
    unfold bhL
    rw [List.length_append, List.length_append, List.length_drop, List.length_drop, olF_len, olF_len, olF_len]
  rw [e] at b
  unfold tT
  omega
theorem bt_y {H : mzH} {p q q2 : Nat} {o1 o2 l a b c r : Int} (h : blT H p q o1 o2 l) (e : q2 = q + 1) (hp : p < q) (hq : q < (fZ H 25 2).toInt.toNat) (rb : rbR r l (tT H p q)) (cc : r < l ∨ (r = l ∧ (mnX H p q < o1 ∨ (mnX H p q = o1 ∧ mxX H p q < o2)))) (ha : a = mnX H p q) (hb : b = mxX H p q) (hc : c = r) : blT H p q2 a b c := by
  subst e ha hb hc
  have rT : c = tT H p q := by
    unfold rbR at rb
    omega
  refine Or.inr ⟨p, q, hp, hq, rfl, rfl, rT, fun u v u1 u2 z => ?_⟩
  if d : u = p ∧ v = q then
    obtain ⟨rfl, rfl⟩ := d
    exact Or.inr ⟨rT, Or.inr ⟨rfl, Int.le_refl _⟩⟩
  else
    have z2 : prP p q u v := by
      unfold prP at *
      omega
    rcases h with ⟨h1, _⟩ | ⟨x, y, _, _, _, _, _, h6⟩
    · exact absurd z2 (h1 u v u1 u2)
    · rcases h6 u v u1 u2 z2 with y1 | ⟨y1, y2⟩
      · left
        omega
      · rcases cc with cc | ⟨c1, c2⟩
        · left
          omega
        · right
          exact ⟨by omega, by omega⟩
theorem bt_n {H : mzH} {p q q2 : Nat} {o1 o2 l a b c r : Int} (h : blT H p q o1 o2 l) (e : q2 = q + 1) (hp : p < q) (hq : q < (fZ H 25 2).toInt.toNat) (h60 : (fZ H 25 2).toInt ≤ 60) (rb : rbR r l (tT H p q)) (cc : ¬ (r < l ∨ (r = l ∧ (mnX H p q < o1 ∨ (mnX H p q = o1 ∧ mxX H p q < o2))))) (ha : a = o1) (hb : b = o2) (hc : c = l) : blT H p q2 a b c := by
  subst e ha hb hc
  have tb := tT_b hp hq h60
  unfold rbR at rb
  rcases h with ⟨_, h2⟩ | ⟨x, y, h1, h2, h3, h4, h5, h6⟩
  · exfalso
    omega
  · refine Or.inr ⟨x, y, h1, h2, h3, h4, h5, fun u v u1 u2 z => ?_⟩
    if d : u = p ∧ v = q then
      obtain ⟨rfl, rfl⟩ := d
      omega
    else exact h6 u v u1 u2 (by
      unfold prP at *
      omega)
/-- what is kept of the two to blame is right -/
def btK (H B : mzH) : Prop := (fZ B 54 6).toInt = 1 → blT H (fZ H 25 2).toInt.toNat ((fZ H 25 2).toInt.toNat + 1) (fZ B 54 9).toInt (fZ B 54 10).toInt (fZ B 54 11).toInt
