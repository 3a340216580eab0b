/-! SHORTEST WAYS, over the arrays alone -/
/-- an entry -/
def mE (f : Nat → Int32) (a b : Nat) : Int := (f (8 * a + b)).toInt
theorem gz_sum {a b : Int32} (h : -2147483648 ≤ a.toInt + b.toInt ∧ a.toInt + b.toInt ≤ 2147483647) : (a + b).toInt = a.toInt + b.toInt := gz_add h
/-- the row is within bounds -/
def mOk (f : Nat → Int32) : Prop := ∀ a b, a < 8 → b < 8 → 0 ≤ mE f a b ∧ mE f a b ≤ 100000
/-- v: the less of the entry and the way over o -/
def mMin (f : Nat → Int32) (o a b : Nat) (v : Int) : Prop := v ≤ mE f a b ∧ v ≤ mE f a o + mE f o b ∧ (v = mE f a b ∨ v = mE f a o + mE f o b)
/-- A rows and B entries of the next one are through -/
def fIv (f g : Nat → Int32) (o A B : Nat) : Prop := ∀ a b, a < 8 → b < 8 → ((a < A ∨ (a = A ∧ b < B)) → mMin f o a b (mE g a b)) ∧ (¬ (a < A ∨ (a = A ∧ b < B)) → mE g a b = mE f a b)
theorem fIv_st {f g : Nat → Int32} {o A B : Nat} (hf : mOk f) (hd : mE f o o = 0) (ho : o < 8) (hA : A < 8) (hB : B < 8) (h : fIv f g o A B) : fIv f (fS g o A B) o A (B + 1) := by
  have e1 : mE g A o = mE f A o := by
    have h1 := h A o hA ho
    have h2 := hf A o hA ho
    if q : A < A ∨ (A = A ∧ o < B) then
      have := h1.1 q
      unfold mMin at this
      omega
    else exact h1.2 q
  have e2 : mE g o B = mE f o B := by
    have h1 := h o B ho hB
    have h2 := hf o B ho hB
    if q : o < A ∨ (o = A ∧ B < B) then
      have := h1.1 q
      unfold mMin at this
      omega
    else exact h1.2 q
  have e3 : mE g A B = mE f A B := (h A B hA hB).2 (by omega)
  have b1 := hf A o hA ho
  have b2 := hf o B ho hB
  have s : (g (8 * A + o) + g (8 * o + B)).toInt = mE f A o + mE f o B := by
    rw [gz_sum]
    · show mE g A o + mE g o B = _
      rw [e1, e2]
    · show _ ≤ mE g A o + mE g o B ∧ mE g A o + mE g o B ≤ _
      omega
  intro a b ha hb
  have ev : mE (fS g o A B) a b = if 8 * a + b = 8 * A + B ∧ mE f A o + mE f o B < mE f A B then mE f A o + mE f o B else mE g a b := by
    show (fS g o A B (8 * a + b)).toInt = _
    unfold fS
    rw [s, show (g (8 * A + B)).toInt = mE f A B from e3]
    split
    · exact s
    · rfl
  rw [ev]
  have hab := h a b ha hb
  refine ⟨fun hp => ?_, fun hn => ?_⟩
  · if q : a = A ∧ b = B then
      obtain ⟨rfl, rfl⟩ := q
      unfold mMin
      split <;> omega
    else
      rw [if_neg (by omega)]
      exact hab.1 (by omega)
  · rw [if_neg (by omega)]
    exact hab.2 (by omega)
theorem fIv_B {f g : Nat → Int32} {o A : Nat} (hf : mOk f) (hd : mE f o o = 0) (ho : o < 8) (hA : A < 8) (h : fIv f g o A 0) : ∀ B, B ≤ 8 → fIv f (fB g o A B) o A B
  | 0, _ => h
  | B + 1, hB => fIv_st hf hd ho hA (by omega) (fIv_B hf hd ho hA h B (by omega))
theorem fIv_A {f : Nat → Int32} {o : Nat} (hf : mOk f) (hd : mE f o o = 0) (ho : o < 8) : ∀ A, A ≤ 8 → fIv f (fA f o A) o A 0
  | 0, _ => fun a b _ _ => ⟨fun q => by omega, fun _ => rfl⟩
  | A + 1, hA => by
    have h := fIv_B hf hd ho (show A < 8 by omega) (fIv_A hf hd ho A (by omega)) 8 (Nat.le_refl _)
    intro a b ha hb
    exact ⟨fun q => (h a b ha hb).1 (by omega), fun q => (h a b ha hb).2 (by omega)⟩
theorem fA_min {f : Nat → Int32} {o : Nat} (hf : mOk f) (hd : mE f o o = 0) (ho : o < 8) {a b : Nat} (ha : a < 8) (hb : b < 8) : mMin f o a b (mE (fA f o 8) a b) := (fIv_A hf hd ho 8 (Nat.le_refl _) a b ha hb).1 (Or.inl ha)
/-! the class -/
def cOk (P : Nat) (B : Int) (x : Nat → Int32) : Prop := ∀ a b, a < P → b < P → mE x a b = -2 ∨ (0 ≤ mE x a b ∧ mE x a b ≤ B)
def cMin (x : Nat → Int32) (o a b : Nat) (v : Int) : Prop := ((mE x a o ≠ -2 ∧ mE x o b ≠ -2 ∧ (mE x a b = -2 ∨ mE x a o + mE x o b < mE x a b)) ∧ v = mE x a o + mE x o b) ∨ (¬ (mE x a o ≠ -2 ∧ mE x o b ≠ -2 ∧ (mE x a b = -2 ∨ mE x a o + mE x o b < mE x a b)) ∧ v = mE x a b)
def jIv (P : Nat) (x y : Nat → Int32) (o A B : Nat) : Prop := ∀ a b, a < P → b < P → ((a < A ∨ (a = A ∧ b < B)) → cMin x o a b (mE y a b)) ∧ (¬ (a < A ∨ (a = A ∧ b < B)) → mE y a b = mE x a b)
theorem jIv_st {P : Nat} {D : Int} {x y : Nat → Int32} {o A B : Nat} (hP : P ≤ 8) (hD : D ≤ 100000) (hx : cOk P D x) (hd : mE x o o = 0) (ho : o < P) (hA : A < P) (hB : B < P) (h : jIv P x y o A B) : jIv P x (jS y o A B) o A (B + 1) := by
  have e1 : mE y A o = mE x A o := by
    have h1 := h A o hA ho
    have h2 := hx A o hA ho
    if q : A < A ∨ (A = A ∧ o < B) then
      have := h1.1 q
      unfold cMin at this
      omega
    else exact h1.2 q
  have e2 : mE y o B = mE x o B := by
    have h1 := h o B ho hB
    have h2 := hx o B ho hB
    if q : o < A ∨ (o = A ∧ B < B) then
      have := h1.1 q
      unfold cMin at this
      omega
    else exact h1.2 q
  have e3 : mE y A B = mE x A B := (h A B hA hB).2 (by omega)
  have b1 := hx A o hA ho
  have b2 := hx o B ho hB
  have s : (y (8 * A + o) + y (8 * o + B)).toInt = mE x A o + mE x o B := by
    rw [gz_sum]
    · show mE y A o + mE y o B = _
      rw [e1, e2]
    · show _ ≤ mE y A o + mE y o B ∧ mE y A o + mE y o B ≤ _
      omega
  intro a b ha hb
  have ev : mE (jS y o A B) a b = if 8 * a + b = 8 * A + B ∧ (mE x A o ≠ -2 ∧ mE x o B ≠ -2 ∧ (mE x A B = -2 ∨ mE x A o + mE x o B < mE x A B)) then mE x A o + mE x o B else mE y a b := by
    show (jS y o A B (8 * a + b)).toInt = _
    unfold jS
    rw [show (y (8 * A + o)).toInt = mE x A o from e1, show (y (8 * o + B)).toInt = mE x o B from e2]
    if c : mE x A o ≠ -2 ∧ mE x o B ≠ -2 then
      rw [if_pos c]
      unfold jSh
      rw [s, show (y (8 * A + B)).toInt = mE x A B from e3]
      if d : 8 * a + b = 8 * A + B ∧ (mE x A B = -2 ∨ mE x A o + mE x o B < mE x A B) then
        rw [if_pos d, if_pos ⟨d.1, c.1, c.2, d.2⟩]
        exact s
      else
        rw [if_neg d, if_neg (fun z => d ⟨z.1, z.2.2.2⟩)]
        rfl
    else
      rw [if_neg c, if_neg (fun z => c ⟨z.2.1, z.2.2.1⟩)]
      rfl
  rw [ev]
  have hab := h a b ha hb
  refine ⟨fun hp => ?_, fun hn => ?_⟩
  · if q : a = A ∧ b = B then
      obtain ⟨rfl, rfl⟩ := q
      unfold cMin
      split <;> omega
    else
      rw [if_neg (by omega)]
      exact hab.1 (by omega)
  · rw [if_neg (by omega)]
    exact hab.2 (by omega)
theorem jIv_B {P : Nat} {D : Int} {x y : Nat → Int32} {o A : Nat} (hP : P ≤ 8) (hD : D ≤ 100000) (hx : cOk P D x) (hd : mE x o o = 0) (ho : o < P) (hA : A < P) (h : jIv P x y o A 0) : ∀ B, B ≤ P → jIv P x (jB y o A B) o A B
  | 0, _ => h
  | B + 1, hB => jIv_st hP hD hx hd ho hA (by omega) (jIv_B hP hD hx hd ho hA h B (by omega))
theorem jIv_A {P : Nat} {D : Int} {x : Nat → Int32} {o : Nat} (hP : P ≤ 8) (hD : D ≤ 100000) (hx : cOk P D x) (hd : mE x o o = 0) (ho : o < P) : ∀ A, A ≤ P → jIv P x (jA x o P A) o A 0
  | 0, _ => fun a b _ _ => ⟨fun q => by omega, fun _ => rfl⟩
  | A + 1, hA => by
    have h := jIv_B hP hD hx hd ho (show A < P by omega) (jIv_A hP hD hx hd ho A (by omega)) P (Nat.le_refl _)
    intro a b ha hb
    exact ⟨fun q => (h a b ha hb).1 (by omega), fun q => (h a b ha hb).2 (by omega)⟩
theorem jA_min {P : Nat} {D : Int} {x : Nat → Int32} {o : Nat} (hP : P ≤ 8) (hD : D ≤ 100000) (hx : cOk P D x) (hd : mE x o o = 0) (ho : o < P) {a b : Nat} (ha : a < P) (hb : b < P) : cMin x o a b (mE (jA x o P P) a b) := (jIv_A hP hD hx hd ho P (Nat.le_refl _) a b ha hb).1 (Or.inl ha)
/-! both -/
/-- the class's entries and the reference's -/
def wRl (P : Nat) (B : Int) (x m : Nat → Int32) : Prop := ∀ a b, a < 8 → b < 8 → ((a < P ∧ b < P) → ((mE x a b = -2 ∧ mE m a b = 100000) ∨ (mE x a b = mE m a b ∧ 0 ≤ mE m a b ∧ mE m a b ≤ B))) ∧ (¬ (a < P ∧ b < P) → a ≠ b → mE m a b = 100000) ∧ (a = b → mE m a b = 0)
theorem wRl_ok {P : Nat} {B : Int} {x m : Nat → Int32} (hB : B ≤ 100000) (h : wRl P B x m) : mOk m := fun a b ha hb => by
  obtain ⟨h1, h2, h3⟩ := h a b ha hb
  if q : a < P ∧ b < P then
    have := h1 q
    omega
  else
    if e : a = b then
      have := h3 e
      omega
    else
      have := h2 q e
      omega
theorem wRl_c {P : Nat} {B : Int} {x m : Nat → Int32} (hP : P ≤ 8) (h : wRl P B x m) : cOk P B x := fun a b ha hb => by
  have := (h a b (by omega) (by omega)).1 ⟨ha, hb⟩
  omega
theorem wRl_in {P : Nat} {B : Int} {x m : Nat → Int32} {o : Nat} (hP : P ≤ 8) (hB : 0 ≤ B ∧ B < 50000) (ho : o < P) (h : wRl P B x m) : wRl P (2 * B) (jA x o P P) (fA m o 8) := by
  have hm := wRl_ok (by omega) h
  have hc := wRl_c hP h
  have dm : mE m o o = 0 := (h o o (by omega) (by omega)).2.2 rfl
  have dx : mE x o o = 0 := by
    have := (h o o (by omega) (by omega)).1 ⟨ho, ho⟩
    omega
  intro a b ha hb
  have k := fA_min hm dm (show o < 8 by omega) ha hb
  have mab := hm a b ha hb
  have mao := hm a o ha (by omega)
  have mob := hm o b (by omega) hb
  unfold mMin at k
  obtain ⟨h1, h2, h3⟩ := h a b ha hb
  obtain ⟨i1, i2, i3⟩ := h a o ha (by omega)
  obtain ⟨j1, j2, j3⟩ := h o b (by omega) hb
  refine ⟨fun q => ?_, fun q e => ?_, fun e => ?_⟩
  · have c := jA_min hP (show B ≤ 100000 by omega) hc dx ho q.1 q.2
    unfold cMin at c
    have h1 := h1 q
    have i1 := i1 ⟨q.1, ho⟩
    have j1 := j1 ⟨ho, q.2⟩
    omega
  · have h2 := h2 q e
    if z : a < P then
      have j2 := j2 (by omega) (by omega)
      omega
    else
      have i2 := i2 (by omega) (by omega)
      omega
  · have h3 := h3 e
    omega
theorem wRl_out {P : Nat} {B : Int} {x m : Nat → Int32} {o : Nat} (hB : 0 ≤ B ∧ B < 50000) (ho : P ≤ o) (ho8 : o < 8) (h : wRl P B x m) : wRl P B x (fA m o 8) := by
  have hm := wRl_ok (by omega) h
  have dm : mE m o o = 0 := (h o o ho8 ho8).2.2 rfl
  intro a b ha hb
  have k := fA_min hm dm ho8 ha hb
  have mab := hm a b ha hb
  have mao := hm a o ha ho8
  have mob := hm o b ho8 hb
  unfold mMin at k
  have e : mE (fA m o 8) a b = mE m a b := by
    if z : a = o then
      subst z
      omega
    else
      have := (h a o ha ho8).2.1 (by omega) z
      omega
  rw [e]
  exact h a b ha hb
def bd (o : Nat) : Int := 99 * 2 ^ o
theorem bd_st {o : Nat} : bd (o + 1) = 2 * bd o := by
  unfold bd
  rw [Int.pow_succ]
  omega
theorem bd_le : ∀ {o : Nat}, o ≤ 8 → 0 ≤ bd o ∧ bd o ≤ 25344
  | o, h => by
    have : ∀ q : Fin 9, 0 ≤ bd q.val ∧ bd q.val ≤ 25344 := by decide
    exact this ⟨o, by omega⟩
theorem bd_lt {o : Nat} (h : o < 8) : 0 ≤ bd o ∧ bd o < 50000 := by
  have := bd_le (show o ≤ 8 by omega)
  omega
theorem wRl_jo {P : Nat} {x m : Nat → Int32} (hP : P ≤ 8) (h : wRl P 99 x m) : ∀ o, o ≤ P → wRl P (bd o) (jO x P o) (fO m o)
  | 0, _ => h
  | o + 1, ho => by
    rw [bd_st]
    exact wRl_in hP (bd_lt (by omega)) (by omega) (wRl_jo hP h o (by omega))
theorem wRl_fo {P : Nat} {B : Int} {x m : Nat → Int32} (hB : 0 ≤ B ∧ B < 50000) : ∀ k, P + k ≤ 8 → wRl P B x (fO m P) → wRl P B x (fO m (P + k))
  | 0, _, h => h
  | k + 1, hk, h => wRl_out (o := P + k) hB (Nat.le_add_right P k) (show P + k < 8 by omega) (wRl_fo hB k (by omega) h)
/-- the class joins over its places, the reference over all: alike -/
theorem wRl_all {P : Nat} {x m : Nat → Int32} (hP : P ≤ 8) (h : wRl P 99 x m) : wRl P 25344 (jO x P P) (fO m 8) := by
  have h1 := wRl_jo hP h P (Nat.le_refl _)
  have hb := bd_le hP
  have h2 : wRl P 25344 (jO x P P) (fO m P) := fun a b ha hb' => by
    obtain ⟨k1, k2, k3⟩ := h1 a b ha hb'
    exact ⟨fun q => by have := k1 q; omega, k2, k3⟩
  have h3 := wRl_fo (by omega) (8 - P) (by omega) h2
  rw [show P + (8 - P) = 8 by omega] at h3
  exact h3
/-- no way over another place is shorter -/
def mTr (k : Nat) (m : Nat → Int32) : Prop := ∀ a b j, a < 8 → b < 8 → j < k → j < 8 → mE m a b ≤ mE m a j + mE m j b
theorem mTr_st {m : Nat → Int32} {o : Nat} (hm : mOk m) (hd : mE m o o = 0) (ho : o < 8) (h : mTr o m) : mTr (o + 1) (fA m o 8) := by
  intro a b j ha hb hj hj8
  have k1 := fA_min hm hd ho ha hb
  have k2 := fA_min hm hd ho ha hj8
  have k3 := fA_min hm hd ho hj8 hb
  unfold mMin at k1 k2 k3
  have b1 := hm a o ha ho
  have b2 := hm o b ho hb
  have b3 := hm o j ho hj8
  have b4 := hm j o hj8 ho
  if q : j = o then
    subst q
    omega
  else
    have t1 := h a b j ha hb (by omega) hj8
    have t2 := h o b j ho hb (by omega) hj8
    have t3 := h a o j ha ho (by omega) hj8
    omega
theorem fO_ok {m : Nat → Int32} (hm : mOk m) (hd : ∀ a, a < 8 → mE m a a = 0) : ∀ o, o ≤ 8 → mOk (fO m o) ∧ (∀ a, a < 8 → mE (fO m o) a a = 0) ∧ mTr o (fO m o)
  | 0, _ => ⟨hm, hd, fun a b j _ _ h _ => absurd h (Nat.not_lt_zero _)⟩
  | o + 1, ho => by
    obtain ⟨h1, h2, h3⟩ := fO_ok hm hd o (by omega)
    have dd := h2 o (by omega)
    refine ⟨fun a b ha hb => ?_, fun a ha => ?_, mTr_st h1 dd (by omega) h3⟩
    · have k := fA_min h1 dd (show o < 8 by omega) ha hb
      unfold mMin at k
      have b0 := h1 a b ha hb
      have b1 := h1 a o ha (by omega)
      have b2 := h1 o b (by omega) hb
      show 0 ≤ mE (fA (fO m o) o 8) a b ∧ mE (fA (fO m o) o 8) a b ≤ 100000
      omega
    · have k := fA_min h1 dd (show o < 8 by omega) ha ha
      unfold mMin at k
      have b0 := h2 a ha
      have b1 := h1 a o ha (by omega)
      have b2 := h1 o a (by omega) ha
      show mE (fA (fO m o) o 8) a a = 0
      omega
/-- what is joined stays as it is -/
theorem jO_id {P : Nat} {x m : Nat → Int32} (hP : P ≤ 8) (h : wRl P 25344 x m) (ht : mTr 8 m) : ∀ o, o ≤ P → ∀ a b, a < P → b < P → mE (jO x P o) a b = mE x a b
  | 0, _, _, _, _, _ => rfl
  | o + 1, ho, a, b, ha, hb => by
    have ih := jO_id hP h ht o (by omega)
    have hc : cOk P 25344 (jO x P o) := fun a b ha hb => by
      rw [ih a b ha hb]
      exact wRl_c hP h a b ha hb
    have dx : mE (jO x P o) o o = 0 := by
      rw [ih o o (by omega) (by omega)]
      have h1 := (h o o (by omega) (by omega)).1 ⟨by omega, by omega⟩
      have h2 := (h o o (by omega) (by omega)).2.2 rfl
      omega
    have c := jA_min hP (show (25344 : Int) ≤ 100000 by decide) hc dx (show o < P by omega) ha hb
    unfold cMin at c
    rw [ih a b ha hb, ih a o ha (by omega), ih o b (by omega) hb] at c
    have t := ht a b o (by omega) (by omega) (by omega) (by omega)
    have h1 := (h a b (by omega) (by omega)).1 ⟨ha, hb⟩
    have h2 := (h a o (by omega) (by omega)).1 ⟨ha, by omega⟩
    have h3 := (h o b (by omega) (by omega)).1 ⟨by omega, hb⟩
    show mE (jA (jO x P o) o P P) a b = mE x a b
    omega
