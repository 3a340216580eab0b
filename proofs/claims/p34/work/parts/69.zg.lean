/-! WORLDS -/
/-- kind (-1: not made), in (-5: none), place, last, seen; open, sold, ended, quarantined -/
abbrev pS := (Nat → Int) × (Nat → Int) × (Nat → Int) × (Nat → Int) × (Nat → Int) × (Nat → Int) × (Nat → Int) × (Nat → Int) × (Nat → Int)
def psM (kd ii pl la se op so en he : Nat → Int) : pS := (kd, ii, pl, la, se, op, so, en, he)
def pS.kd (s : pS) : Nat → Int := s.1
def pS.ii (s : pS) : Nat → Int := s.2.1
def pS.pl (s : pS) : Nat → Int := s.2.2.1
def pS.la (s : pS) : Nat → Int := s.2.2.2.1
def pS.se (s : pS) : Nat → Int := s.2.2.2.2.1
def pS.op (s : pS) : Nat → Int := s.2.2.2.2.2.1
def pS.so (s : pS) : Nat → Int := s.2.2.2.2.2.2.1
def pS.en (s : pS) : Nat → Int := s.2.2.2.2.2.2.2.1
def pS.he (s : pS) : Nat → Int := s.2.2.2.2.2.2.2.2
/-- the marks of a thing as the class keeps them -/
def mkv (s : pS) (n : Nat) : Int := s.op n + 2 * s.so n + 4 * s.en n + 8 * s.he n
def bts (s : pS) (n : Nat) : Prop := (0 ≤ s.op n ∧ s.op n ≤ 1) ∧ (0 ≤ s.so n ∧ s.so n ≤ 1) ∧ (0 ≤ s.en n ∧ s.en n ≤ 1) ∧ (0 ≤ s.he n ∧ s.he n ≤ 1)
def mkb (s : pS) (m : Int) (n : Nat) : Int := if m = 1 then s.op n else if m = 2 then s.so n else if m = 4 then s.en n else s.he n
def wdX (H : mzH) (w : Nat) (s : pS) : Prop := ∀ n, n < 40 → (aZ H (w + 1) n).toInt = s.kd n ∧ (aZ H (w + 2) n).toInt = s.ii n ∧ (aZ H (w + 3) n).toInt = s.pl n ∧ (aZ H (w + 4) n).toInt = s.la n ∧ (aZ H (w + 5) n).toInt = s.se n ∧ (aZ H (w + 6) n).toInt = mkv s n ∧ bts s n
theorem i32_of {x : Int32} (h : 0 ≤ x.toInt ∧ x.toInt ≤ 15) : ∃ n : Fin 16, x = Int32.ofNat n.val ∧ x.toInt = (n.val : Int) := by
  have k : ∀ n : Fin 16, (Int32.ofNat n.val).toInt = (n.val : Int) := by decide
  refine ⟨⟨x.toInt.toNat, by omega⟩, Int32.toInt_inj.mp ?_, ?_⟩
  · rw [k]
    show x.toInt = ((x.toInt.toNat : Nat) : Int)
    omega
  · show x.toInt = ((x.toInt.toNat : Nat) : Int)
    omega
theorem and_t : ∀ n : Fin 16, ((Int32.ofNat n.val) &&& 1).toInt = ((n.val % 2 : Nat) : Int) ∧ ((Int32.ofNat n.val) &&& 2).toInt = ((n.val / 2 % 2 * 2 : Nat) : Int) ∧ ((Int32.ofNat n.val) &&& 4).toInt = ((n.val / 4 % 2 * 4 : Nat) : Int) ∧ ((Int32.ofNat n.val) &&& 8).toInt = ((n.val / 8 % 2 * 8 : Nat) : Int) := by decide
theorem has_mk {s : pS} {n : Nat} {x a r v : Int32} (h : x.toInt = mkv s n ∧ bts s n) (ha : a.toInt = 1 ∨ a.toInt = 2 ∨ a.toInt = 4 ∨ a.toInt = 8) (o : r = x &&& a) (hv : (r.toInt ≠ 0 ∧ v.toInt = 1) ∨ (r.toInt = 0 ∧ v.toInt = 0)) : v.toInt = mkb s a.toInt n := by
  obtain ⟨h1, h2⟩ := h
  unfold mkv at h1
  unfold bts at h2
  obtain ⟨k, rfl, e⟩ := i32_of (x := x) (by first | with_reducible assumption | omega)
  obtain ⟨t1, t2, t3, t4⟩ := and_t k
  unfold mkb
  rcases ha with ha | ha | ha | ha
  · rw [if_pos ha]
    rw [o, show a = 1 from Int32.toInt_inj.mp ha, t1] at hv
    omega
  · rw [if_neg (by first | with_reducible assumption | omega), if_pos ha]
    rw [o, show a = 2 from Int32.toInt_inj.mp ha, t2] at hv
    omega
  · rw [if_neg (by first | with_reducible assumption | omega), if_neg (by first | with_reducible assumption | omega), if_pos ha]
    rw [o, show a = 4 from Int32.toInt_inj.mp ha, t3] at hv
    omega
  · rw [if_neg (by first | with_reducible assumption | omega), if_neg (by first | with_reducible assumption | omega), if_neg (by first | with_reducible assumption | omega)]
    rw [o, show a = 8 from Int32.toInt_inj.mp ha, t4] at hv
    omega
/-- the topmost thing around n -/
def tp (s : pS) (n : Nat) : Nat := if s.ii n < 0 then n else if s.ii (s.ii n).toNat < 0 then (s.ii n).toNat else (s.ii (s.ii n).toNat).toNat
def tpI (s : pS) (n : Nat) (u t : Int) : Prop := (u = 0 ∧ t = n) ∨ (u = 1 ∧ 0 ≤ s.ii n ∧ t = s.ii n) ∨ (u = 2 ∧ 0 ≤ s.ii n ∧ 0 ≤ s.ii (s.ii n).toNat ∧ t = s.ii (s.ii n).toNat)
theorem tp_0 {s : pS} {n : Nat} {u t : Int} (hu : u = 0) (ht : t = n) : tpI s n u t := Or.inl ⟨hu, ht⟩
theorem tp_st {s : pS} {n : Nat} {u u' t v : Int} (q : tpI s n u t) (hu : u < 2) (hv0 : 0 ≤ v) (hv : v = s.ii t.toNat) (h : u' = u + 1) : tpI s n u' v := by
  rcases q with ⟨q1, q2⟩ | ⟨q1, q2, q3⟩ | ⟨q1, _⟩
  · subst q2
    rw [show ((n : Int)).toNat = n from Int.toNat_natCast n] at hv
    exact Or.inr (Or.inl ⟨by omega, by omega, hv⟩)
  · subst q3
    exact Or.inr (Or.inr ⟨by omega, q2, by omega, hv⟩)
  · omega
theorem tp_end {s : pS} {n : Nat} {u t : Int} (q : tpI s n u t) (h : 2 ≤ u ∨ s.ii t.toNat < 0) : t = (tp s n : Int) := by
  unfold tp
  rcases q with ⟨q1, q2⟩ | ⟨q1, q2, q3⟩ | ⟨q1, q2, q3, q4⟩
  · subst q2
    rw [show ((n : Int)).toNat = n from Int.toNat_natCast n] at h
    rw [if_pos (by first | with_reducible assumption | omega)]
  · subst q3
    rw [if_neg (by first | with_reducible assumption | omega), if_pos (by first | with_reducible assumption | omega)]
    omega
  · rw [if_neg (by first | with_reducible assumption | omega), if_neg (by first | with_reducible assumption | omega)]
    omega
theorem mkb_1 {s : pS} {n : Nat} : mkb s 1 n = s.op n := rfl
theorem mkb_2 {s : pS} {n : Nat} : mkb s 2 n = s.so n := rfl
theorem mkb_4 {s : pS} {n : Nat} : mkb s 4 n = s.en n := rfl
theorem mkb_8 {s : pS} {n : Nat} : mkb s 8 n = s.he n := rfl
/-- whether n lies in o, at any depth: 1, 0 -/
def inn (s : pS) (n : Nat) (o : Int) : Int := if 0 ≤ s.ii n ∧ (s.ii n = o ∨ (0 ≤ s.ii (s.ii n).toNat ∧ s.ii (s.ii n).toNat = o)) then 1 else 0
theorem inn_b {s : pS} {n : Nat} {o : Int} : 0 ≤ inn s n o ∧ inn s n o ≤ 1 := by
  unfold inn
  split <;> decide
def inI (s : pS) (n : Nat) (o u t : Int) : Prop := (u = 0 ∧ t = s.ii n) ∨ (u = 1 ∧ 0 ≤ s.ii n ∧ s.ii n ≠ o ∧ t = s.ii (s.ii n).toNat) ∨ (u = 2 ∧ 0 ≤ s.ii n ∧ s.ii n ≠ o ∧ s.ii (s.ii n).toNat ≠ o)
theorem in_0 {s : pS} {n : Nat} {o u t : Int} (hu : u = 0) (ht : t = s.ii n) : inI s n o u t := Or.inl ⟨hu, ht⟩
theorem in_st {s : pS} {n : Nat} {o u u' t v : Int} (q : inI s n o u t) (hu : u < 2) (ht : 0 ≤ t) (hn : t ≠ o) (hv : v = s.ii t.toNat) (h : u' = u + 1) : inI s n o u' v := by
  rcases q with ⟨q1, q2⟩ | ⟨q1, q2, q3, q4⟩ | ⟨q1, _⟩
  · subst q2
    exact Or.inr (Or.inl ⟨by omega, ht, hn, hv⟩)
  · exact Or.inr (Or.inr ⟨by omega, q2, q3, by omega⟩)
  · omega
theorem in_y {s : pS} {n : Nat} {o u t v : Int} (q : inI s n o u t) (hu : u < 2) (ht : 0 ≤ t) (hn : t = o) (hv : v = 1) : v = inn s n o := by
  unfold inn
  rcases q with ⟨q1, q2⟩ | ⟨q1, q2, q3, q4⟩ | ⟨q1, _⟩
  · rw [if_pos ⟨by omega, Or.inl (by first | with_reducible assumption | omega)⟩]
    exact hv
  · rw [if_pos ⟨q2, Or.inr ⟨by omega, by omega⟩⟩]
    exact hv
  · omega
theorem in_n {s : pS} {n : Nat} {o u t v : Int} (q : inI s n o u t) (h : 2 ≤ u ∨ t < 0) (hv : v = 0) : v = inn s n o := by
  unfold inn
  rw [if_neg]
  · exact hv
  · rintro ⟨z1, z2⟩
    rcases q with ⟨q1, q2⟩ | ⟨q1, q2, q3, q4⟩ | ⟨q1, q2, q3, q4⟩ <;> omega
/-- where a thing is -/
def whr (s : pS) (n : Nat) : Int := if s.kd n = -1 then -2 else if s.en n = 1 then -4 else if s.so (tp s n) = 1 then -3 else s.pl (tp s n)
/-- how many there are; whether there is one -/
def cnt (p : Nat → Prop) [DecidablePred p] : Nat → Int
  | 0 => 0
  | n + 1 => cnt p n + (if p n then 1 else 0)
theorem cn_0 {p : Nat → Prop} [DecidablePred p] {k : Nat} {n : Int} (hn : n = 0) (hk : k = 0) : n = cnt p k := by subst hk; exact hn
theorem cn_y {p : Nat → Prop} [DecidablePred p] {k k' : Nat} {n m : Int} (q : n = cnt p k) (hk : k' = k + 1) (h : p k) (hm : m = n + 1) : m = cnt p k' := by
  subst hk
  unfold cnt
  rw [if_pos h, ← q]
  exact hm
theorem cn_n {p : Nat → Prop} [DecidablePred p] {k k' : Nat} {n m : Int} (q : n = cnt p k) (hk : k' = k + 1) (h : ¬ p k) (hm : m = n) : m = cnt p k' := by
  subst hk
  unfold cnt
  rw [if_neg h, ← q]
  omega
/-- how many lie in it -/
def hel (s : pS) (m : Int) : Int := cnt (fun x => s.ii x = m) 40
theorem cn_end {p : Nat → Prop} [DecidablePred p] {k k' : Nat} {n : Int} (q : n = cnt p k) (h : k = k') : n = cnt p k' := h ▸ q
def exi (p : Nat → Prop) [DecidablePred p] : Nat → Int
  | 0 => 0
  | n + 1 => if p n then 1 else exi p n
theorem ei_0 {p : Nat → Prop} [DecidablePred p] {k : Nat} (h : k = 0) : exi p k = 0 := by subst h; rfl
theorem ei_no {p : Nat → Prop} [DecidablePred p] {k k' : Nat} (q : exi p k = 0) (hk : k' = k + 1) (h : ¬ p k) : exi p k' = 0 := by
  subst hk
  unfold exi
  rw [if_neg h]
  exact q
theorem ei_one {p : Nat → Prop} [DecidablePred p] {j : Nat} : ∀ {n : Nat}, j < n → p j → exi p n = 1
  | 0, h, _ => absurd h (Nat.not_lt_zero _)
  | n + 1, h, hp => by
    unfold exi
    if e : p n then rw [if_pos e]
    else
      rw [if_neg e]
      if z : j = n then
        subst z
        exact absurd hp e
      else exact ei_one (n := n) (by first | with_reducible assumption | omega) hp
theorem ei_yes {p : Nat → Prop} [DecidablePred p] {j n : Nat} {v : Int} (h : j < n) (hp : p j) (hv : v = 1) : v = exi p n := by rw [ei_one h hp]; exact hv
theorem ei_end {p : Nat → Prop} [DecidablePred p] {k n : Nat} {v : Int} (q : exi p k = 0) (h : k = n) (hv : v = 0) : v = exi p n := by rw [← h, q]; exact hv
theorem ei_b {p : Nat → Prop} [DecidablePred p] : ∀ {n : Nat}, 0 ≤ exi p n ∧ exi p n ≤ 1
  | 0 => ⟨Int.le_refl _, (by decide : (0 : Int) ≤ 1)⟩
  | n + 1 => by
    unfold exi
    split
    · decide
    · exact ei_b
abbrev qwP (s : pS) (n : Int) (x : Nat) : Prop := s.he x = 1 ∧ ((x : Int) = n ∨ inn s x n = 1)
/-- whether it, or what lies in it, is quarantined -/
def qwi (s : pS) (n : Int) : Int := exi (qwP s n) 40
/-- what goes along with a thing that is found elsewhere -/
def loo (s : pS) (n : Nat) : Nat := if s.ii n < 0 ∨ s.op (s.ii n).toNat = 1 then n else if s.ii (s.ii n).toNat < 0 ∨ s.op (s.ii (s.ii n).toNat).toNat = 1 then (s.ii n).toNat else (s.ii (s.ii n).toNat).toNat
def loI (s : pS) (n : Nat) (u t : Int) : Prop := (u = 0 ∧ t = n) ∨ (u = 1 ∧ ¬ (s.ii n < 0 ∨ s.op (s.ii n).toNat = 1) ∧ t = s.ii n) ∨ (u = 2 ∧ ¬ (s.ii n < 0 ∨ s.op (s.ii n).toNat = 1) ∧ ¬ (s.ii (s.ii n).toNat < 0 ∨ s.op (s.ii (s.ii n).toNat).toNat = 1) ∧ t = s.ii (s.ii n).toNat)
theorem lo_0 {s : pS} {n : Nat} {u t : Int} (hu : u = 0) (ht : t = n) : loI s n u t := Or.inl ⟨hu, ht⟩
theorem lo_st {s : pS} {n : Nat} {u u' t v : Int} (q : loI s n u t) (hu : u < 2) (hv0 : 0 ≤ v) (ho : s.op v.toNat ≠ 1) (hv : v = s.ii t.toNat) (h : u' = u + 1) : loI s n u' v := by
  rcases q with ⟨q1, q2⟩ | ⟨q1, q2, q3⟩ | ⟨q1, _⟩
  · subst q2
    rw [show ((n : Int)).toNat = n from Int.toNat_natCast n] at hv
    subst hv
    exact Or.inr (Or.inl ⟨by omega, by omega, rfl⟩)
  · subst q3
    subst hv
    exact Or.inr (Or.inr ⟨by omega, q2, by omega, rfl⟩)
  · omega
theorem lo_end {s : pS} {n : Nat} {u t : Int} (q : loI s n u t) (h : 2 ≤ u ∨ s.ii t.toNat < 0 ∨ s.op (s.ii t.toNat).toNat = 1) : t = (loo s n : Int) := by
  unfold loo
  rcases q with ⟨q1, q2⟩ | ⟨q1, q2, q3⟩ | ⟨q1, q2, q3, q4⟩
  · subst q2
    rw [show ((n : Int)).toNat = n from Int.toNat_natCast n] at h
    rw [if_pos (by first | with_reducible assumption | omega)]
  · subst q3
    rw [if_neg q2, if_pos (by first | with_reducible assumption | omega)]
    omega
  · rw [if_neg q2, if_neg q3]
    omega
/-- the class's ways between its places; -2 -/
def wyX (H : mzH) (a b : Int) : Int := if 0 ≤ a ∧ a < (fZ H 3 7).toInt ∧ 0 ≤ b ∧ b < (fZ H 3 7).toInt then (aZ H 5 (8 * a.toNat + b.toNat)).toInt else -2
def laB (s : pS) : Prop := ∀ n, n < 40 → 0 ≤ s.la n ∧ s.la n ≤ 999
def kdB (s : pS) : Prop := ∀ n, n < 40 → -1 ≤ s.kd n ∧ s.kd n ≤ 2
/-- too soon at a place -/
def soo (s : pS) (wy : Int → Int → Int) (t : Nat) (to hour : Int) : Int := if s.pl t = to then 0 else if wy (s.pl t) to = -2 ∨ hour - s.la t < wy (s.pl t) to then 1 else 0
/-- why n can't be packed into m -/
def oPk (s : pS) (U C : Int) (n m : Nat) : Int := if s.kd m ≠ s.kd n + 1 then 4 else if 0 ≤ s.ii n then 5 else if s.so (tp s n) = 1 ∨ s.so (tp s m) = 1 then 6 else if s.pl (tp s n) ≠ s.pl (tp s m) ∨ (if s.kd m = 1 then U else C) ≤ hel s (m : Int) then 7 else 0
/-- why a message is refused; 0 -/
def obj (s : pS) (wy : Int → Int → Int) (U C ac : Int) (n : Nat) (se hour : Int) : Int := if ac = 0 then (if s.kd n = -1 then 0 else 1) else if s.kd n = -1 ∨ s.kd (if ac = 1 then se.toNat else n) = -1 then 2 else if s.en n = 1 ∨ s.en (if ac = 1 then se.toNat else n) = 1 then 3 else if ac = 1 then (if oPk s U C n se.toNat = 0 ∧ qwi s (n : Int) = 1 then 11 else oPk s U C n se.toNat) else if ac = 2 then (if s.ii n < 0 then 5 else if s.so (tp s n) = 1 then 6 else 0) else if ac = 3 then (if s.so (tp s n) = 1 then 6 else if s.op n = 1 ∨ s.kd n = 0 then 8 else 0) else if ac = 4 then (if s.so (tp s n) = 1 then 6 else if s.op n = 1 then 0 else 8) else if ac = 5 then (if s.so (tp s n) = 1 then 6 else if 0 ≤ s.ii n then 9 else if soo s wy (tp s n) se hour = 1 then 10 else 0) else if ac = 6 then (if s.so (tp s n) = 1 then 6 else if soo s wy (tp s n) se hour = 1 then 10 else 0) else if ac = 7 then (if s.so (tp s n) = 1 then 6 else if 0 ≤ s.ii n then 9 else if qwi s (n : Int) = 1 then 11 else 0) else if ac = 8 then (if 0 ≤ s.ii n ∨ s.so (tp s n) ≠ 1 then 6 else 0) else if ac = 10 then (if s.he n = 1 then 0 else 12) else 0
section
variable {s : pS} {wy : Int → Int → Int} {U C ac se hour : Int} {n : Nat}
theorem ob_0 (h : ac = 0) : obj s wy U C ac n se hour = if s.kd n = -1 then 0 else 1 := by unfold obj; rw [if_pos h]
theorem ob_2 (h : ac ≠ 0 ∧ ac ≠ 1) (h2 : s.kd n = -1) : obj s wy U C ac n se hour = 2 := by unfold obj; rw [if_neg h.1, if_pos (Or.inl h2)]
theorem ob_2p (h : ac = 1) (h2 : s.kd n = -1 ∨ s.kd se.toNat = -1) : obj s wy U C ac n se hour = 2 := by unfold obj; rw [if_neg (by first | with_reducible assumption | omega), if_pos h, if_pos h2]
theorem ob_3 (h : ac ≠ 0 ∧ ac ≠ 1) (h2 : s.kd n ≠ -1) (h3 : s.en n = 1) : obj s wy U C ac n se hour = 3 := by unfold obj; rw [if_neg h.1, if_neg h.2, if_neg (by first | with_reducible assumption | omega), if_pos (Or.inl h3)]
theorem ob_3p (h : ac = 1) (h2 : s.kd n ≠ -1 ∧ s.kd se.toNat ≠ -1) (h3 : s.en n = 1 ∨ s.en se.toNat = 1) : obj s wy U C ac n se hour = 3 := by unfold obj; rw [if_neg (by first | with_reducible assumption | omega), if_pos h, if_neg (by first | with_reducible assumption | omega), if_pos h3]
theorem ob_k1 (h : ac = 1) (h2 : s.kd n ≠ -1 ∧ s.kd se.toNat ≠ -1) (h3 : s.en n ≠ 1 ∧ s.en se.toNat ≠ 1) : obj s wy U C ac n se hour = if oPk s U C n se.toNat = 0 ∧ qwi s (n : Int) = 1 then 11 else oPk s U C n se.toNat := by unfold obj; rw [if_neg (show ¬ ac = 0 by omega), if_pos h, if_neg (by first | with_reducible assumption | omega), if_neg (by first | with_reducible assumption | omega), if_pos h]
theorem ob_k2 (h : ac = 2) (h2 : s.kd n ≠ -1) (h3 : s.en n ≠ 1) : obj s wy U C ac n se hour = if s.ii n < 0 then 5 else if s.so (tp s n) = 1 then 6 else 0 := by
  unfold obj
  rw [if_neg (show ¬ ac = 0 by omega), if_neg (show ¬ ac = 1 by omega), if_neg (by first | with_reducible assumption | omega), if_neg (by first | with_reducible assumption | omega), if_neg (show ¬ ac = 1 by omega), if_pos h]
theorem ob_k3 (h : ac = 3) (h2 : s.kd n ≠ -1) (h3 : s.en n ≠ 1) : obj s wy U C ac n se hour = if s.so (tp s n) = 1 then 6 else if s.op n = 1 ∨ s.kd n = 0 then 8 else 0 := by
  unfold obj
  rw [if_neg (show ¬ ac = 0 by omega), if_neg (show ¬ ac = 1 by omega), if_neg (by first | with_reducible assumption | omega), if_neg (by first | with_reducible assumption | omega), if_neg (show ¬ ac = 1 by omega), if_neg (show ¬ ac = 2 by omega), if_pos h]
theorem ob_k4 (h : ac = 4) (h2 : s.kd n ≠ -1) (h3 : s.en n ≠ 1) : obj s wy U C ac n se hour = if s.so (tp s n) = 1 then 6 else if s.op n = 1 then 0 else 8 := by
  unfold obj
  rw [if_neg (show ¬ ac = 0 by omega), if_neg (show ¬ ac = 1 by omega), if_neg (by first | with_reducible assumption | omega), if_neg (by first | with_reducible assumption | omega), if_neg (show ¬ ac = 1 by omega), if_neg (show ¬ ac = 2 by omega), if_neg (show ¬ ac = 3 by omega), if_pos h]
theorem ob_k5 (h : ac = 5) (h2 : s.kd n ≠ -1) (h3 : s.en n ≠ 1) : obj s wy U C ac n se hour = if s.so (tp s n) = 1 then 6 else if 0 ≤ s.ii n then 9 else if soo s wy (tp s n) se hour = 1 then 10 else 0 := by
  unfold obj
  rw [if_neg (show ¬ ac = 0 by omega), if_neg (show ¬ ac = 1 by omega), if_neg (by first | with_reducible assumption | omega), if_neg (by first | with_reducible assumption | omega), if_neg (show ¬ ac = 1 by omega), if_neg (show ¬ ac = 2 by omega), if_neg (show ¬ ac = 3 by omega), if_neg (show ¬ ac = 4 by omega), if_pos h]
theorem ob_k6 (h : ac = 6) (h2 : s.kd n ≠ -1) (h3 : s.en n ≠ 1) : obj s wy U C ac n se hour = if s.so (tp s n) = 1 then 6 else if soo s wy (tp s n) se hour = 1 then 10 else 0 := by
  unfold obj
  rw [if_neg (show ¬ ac = 0 by omega), if_neg (show ¬ ac = 1 by omega), if_neg (by first | with_reducible assumption | omega), if_neg (by first | with_reducible assumption | omega), if_neg (show ¬ ac = 1 by omega), if_neg (show ¬ ac = 2 by omega), if_neg (show ¬ ac = 3 by omega), if_neg (show ¬ ac = 4 by omega), if_neg (show ¬ ac = 5 by omega), if_pos h]
theorem ob_k7 (h : ac = 7) (h2 : s.kd n ≠ -1) (h3 : s.en n ≠ 1) : obj s wy U C ac n se hour = if s.so (tp s n) = 1 then 6 else if 0 ≤ s.ii n then 9 else if qwi s (n : Int) = 1 then 11 else 0 := by
  unfold obj
  rw [if_neg (show ¬ ac = 0 by omega), if_neg (show ¬ ac = 1 by omega), if_neg (by first | with_reducible assumption | omega), if_neg (by first | with_reducible assumption | omega), if_neg (show ¬ ac = 1 by omega), if_neg (show ¬ ac = 2 by omega), if_neg (show ¬ ac = 3 by omega), if_neg (show ¬ ac = 4 by omega), if_neg (show ¬ ac = 5 by omega), if_neg (show ¬ ac = 6 by omega), if_pos h]
theorem ob_k8 (h : ac = 8) (h2 : s.kd n ≠ -1) (h3 : s.en n ≠ 1) : obj s wy U C ac n se hour = if 0 ≤ s.ii n ∨ s.so (tp s n) ≠ 1 then 6 else 0 := by
  unfold obj
  rw [if_neg (show ¬ ac = 0 by omega), if_neg (show ¬ ac = 1 by omega), if_neg (by first | with_reducible assumption | omega), if_neg (by first | with_reducible assumption | omega), if_neg (show ¬ ac = 1 by omega), if_neg (show ¬ ac = 2 by omega), if_neg (show ¬ ac = 3 by omega), if_neg (show ¬ ac = 4 by omega), if_neg (show ¬ ac = 5 by omega), if_neg (show ¬ ac = 6 by omega), if_neg (show ¬ ac = 7 by omega), if_pos h]
theorem ob_k9 (h : ac = 9) (h2 : s.kd n ≠ -1) (h3 : s.en n ≠ 1) : obj s wy U C ac n se hour = 0 := by
  unfold obj
  rw [if_neg (show ¬ ac = 0 by omega), if_neg (show ¬ ac = 1 by omega), if_neg (by first | with_reducible assumption | omega), if_neg (by first | with_reducible assumption | omega), if_neg (show ¬ ac = 1 by omega), if_neg (show ¬ ac = 2 by omega), if_neg (show ¬ ac = 3 by omega), if_neg (show ¬ ac = 4 by omega), if_neg (show ¬ ac = 5 by omega), if_neg (show ¬ ac = 6 by omega), if_neg (show ¬ ac = 7 by omega), if_neg (show ¬ ac = 8 by omega), if_neg (show ¬ ac = 10 by omega)]
theorem ob_k10 (h : ac = 10) (h2 : s.kd n ≠ -1) (h3 : s.en n ≠ 1) : obj s wy U C ac n se hour = if s.he n = 1 then 0 else 12 := by
  unfold obj
  rw [if_neg (show ¬ ac = 0 by omega), if_neg (show ¬ ac = 1 by omega), if_neg (by first | with_reducible assumption | omega), if_neg (by first | with_reducible assumption | omega), if_neg (show ¬ ac = 1 by omega), if_neg (show ¬ ac = 2 by omega), if_neg (show ¬ ac = 3 by omega), if_neg (show ¬ ac = 4 by omega), if_neg (show ¬ ac = 5 by omega), if_neg (show ¬ ac = 6 by omega), if_neg (show ¬ ac = 7 by omega), if_neg (show ¬ ac = 8 by omega), if_pos h]
end
set_option maxRecDepth 4000 in
set_option maxHeartbeats 4000000 in
/-- X8.has -/
theorem w_85 {s : pS} (w : Nat) (hw : zWo w) (a1 : Int32) (ha1 : 0 ≤ a1.toInt ∧ a1.toInt ≤ 39) (a2 : Int32) (H : mzH) (hI : gI SX H) (hJ : JX H) (hp0 : wdX H w s) (hp1 : (a2.toInt = 1 ∨ a2.toInt = 2 ∨ a2.toInt = 4 ∨ a2.toInt = 8)) : gCall 85 [.ref w, .int a1, .int a2] H (gRi (fun v H' => H = H' ∧ (0 ≤ v.toInt ∧ v.toInt ≤ 1) ∧ v.toInt = mkb s a2.toInt a1.toInt.toNat)) := by
  obtain ⟨hwr, hw0, hw1, hw2, hw3, hw4, hw5, hw6⟩ := id hw
  refine gG_call [(0, .ref w), (1, .int a1), (2, .int a2)] ⟨rfl, rfl, rfl, trivial⟩ ?_
  show gG 3 zB_85 (mzBlk zB_85 0) [(0, .ref w), (1, .int a1), (2, .int a2)] [] H 0 0 _
  refine g_aload_n rfl ?_
  refine g_gfr hI hw0 rfl ?_
  refine g_iload_n rfl ?_
  refine g_iaload hI hw6 rfl (by first | with_reducible assumption | omega) (fun v21 ev21 lv21 uv21 => ?_)
  have yv21 : v21.toInt = mkv s a1.toInt.toNat ∧ bts s a1.toInt.toNat := by rw [ev21]; exact (hp0 _ (by first | with_reducible assumption | omega)).2.2.2.2.2
  refine g_iload_n rfl ?_
  refine g_iand' (fun v22 ov22 => ?_)
  refine g_if_eq (fun c23 => ?_) (fun c23 => ?_)
  · refine g_iconst (by decide) (fun v24 kv24 => ?_)
    refine g_nop ?_
    exact g_zret (by first | with_reducible assumption | omega) ⟨_, rfl, rfl, (by first | with_reducible assumption | omega), (has_mk yv21 hp1 ov22 (by first | with_reducible assumption | omega))⟩
  · refine g_iconst (by decide) (fun v25 kv25 => ?_)
    refine g_goto ?_
    exact g_zret (by first | with_reducible assumption | omega) ⟨_, rfl, rfl, (by first | with_reducible assumption | omega), (has_mk yv21 hp1 ov22 (by first | with_reducible assumption | omega))⟩
set_option maxRecDepth 4000 in
set_option maxHeartbeats 4000000 in
/-- X8.isMade -/
theorem w_88 {s : pS} (w : Nat) (hw : zWo w) (a1 : Int32) (ha1 : 0 ≤ a1.toInt ∧ a1.toInt ≤ 39) (H : mzH) (hI : gI SX H) (hJ : JX H) (hp0 : wdX H w s) : gCall 88 [.ref w, .int a1] H (gRi (fun v H' => H = H' ∧ (0 ≤ v.toInt ∧ v.toInt ≤ 1) ∧ ((v.toInt = 1 ∧ s.kd a1.toInt.toNat ≠ -1) ∨ (v.toInt = 0 ∧ s.kd a1.toInt.toNat = -1)))) := by
  obtain ⟨hwr, hw0, hw1, hw2, hw3, hw4, hw5, hw6⟩ := id hw
  refine gG_call [(0, .ref w), (1, .int a1)] ⟨rfl, rfl, trivial⟩ ?_
  show gG 2 zB_88 (mzBlk zB_88 0) [(0, .ref w), (1, .int a1)] [] H 0 0 _
  refine g_aload_n rfl ?_
  refine g_gfr hI hw0 rfl ?_
  refine g_iload_n rfl ?_
  refine g_iaload hI hw1 rfl (by first | with_reducible assumption | omega) (fun v21 ev21 lv21 uv21 => ?_)
  have yv21 : v21.toInt = (s).kd a1.toInt.toNat := by rw [ev21]; exact (hp0 _ (by first | with_reducible assumption | omega)).1
  refine g_iconst (by decide) (fun v22 kv22 => ?_)
  refine g_if2_eq (fun c23 => ?_) (fun c23 => ?_)
  · refine g_iconst (by decide) (fun v24 kv24 => ?_)
    refine g_nop ?_
    exact g_zret (by first | with_reducible assumption | omega) ⟨_, rfl, rfl, (by first | with_reducible assumption | omega), (by first | with_reducible assumption | omega)⟩
  · refine g_iconst (by decide) (fun v25 kv25 => ?_)
    refine g_goto ?_
    exact g_zret (by first | with_reducible assumption | omega) ⟨_, rfl, rfl, (by first | with_reducible assumption | omega), (by first | with_reducible assumption | omega)⟩
set_option maxRecDepth 4000 in
set_option maxHeartbeats 4000000 in
/-- X8.topmost -/
theorem w_89 {s : pS} (w : Nat) (hw : zWo w) (a1 : Int32) (ha1 : 0 ≤ a1.toInt ∧ a1.toInt ≤ 39) (H : mzH) (hI : gI SX H) (hJ : JX H) (hp0 : wdX H w s) : gCall 89 [.ref w, .int a1] H (gRi (fun v H' => H = H' ∧ (0 ≤ v.toInt ∧ v.toInt ≤ 39) ∧ v.toInt = (tp s a1.toInt.toNat : Int))) := by
  obtain ⟨hwr, hw0, hw1, hw2, hw3, hw4, hw5, hw6⟩ := id hw
  refine gG_call [(0, .ref w), (1, .int a1)] ⟨rfl, rfl, trivial⟩ ?_
  show gG 4 zB_89 (mzBlk zB_89 0) [(0, .ref w), (1, .int a1)] [] H 0 0 _
  refine g_iload_n rfl ?_
  refine g_istore_n (l' := [(0, .ref w), (1, .int a1), (2, .int a1)]) rfl rfl ?_
  refine g_iconst (by decide) (fun v53 kv53 => ?_)
  refine g_istore_n (l' := [(0, .ref w), (1, .int a1), (2, .int a1), (3, .int v53)]) rfl rfl ?_
  refine g_nop ?_
  have L56 : ∀ (N : Nat) (v54 : Int32) (v55 : Int32), (0 ≤ v54.toInt ∧ v54.toInt ≤ 39) → (0 ≤ v55.toInt ∧ v55.toInt ≤ 2) → tpI s a1.toInt.toNat v55.toInt v54.toInt → (2 - v55.toInt).toNat < N → gG 4 zB_89 (mzBlk zB_89 1) [(0, .ref w), (1, .int a1), (2, .int v54), (3, .int v55)] [] H 0 0 (gRi (fun v H' => H = H' ∧ (0 ≤ v.toInt ∧ v.toInt ≤ 39) ∧ v.toInt = (tp s a1.toInt.toNat : Int))) := by
    intro N
    induction N with
    | zero => intro v54 v55 bv54 bv55 q1 hmL56; exact absurd hmL56 (Nat.not_lt_zero _)
    | succ N ihL56 =>
      intro v54 v55 bv54 bv55 q1 hmL56
      refine g_iload_n rfl ?_
      refine g_iconst (by decide) (fun v57 kv57 => ?_)
      refine g_if2_ge (fun c58 => ?_) (fun c58 => ?_)
      · refine g_iload_n rfl ?_
        exact g_iret ⟨_, rfl, rfl, (by first | with_reducible assumption | omega), (tp_end q1 (by first | with_reducible assumption | omega))⟩
      · refine g_aload_n rfl ?_
        refine g_gfr hI hw0 rfl ?_
        refine g_iload_n rfl ?_
        refine g_iaload hI hw2 rfl (by first | with_reducible assumption | omega) (fun v59 ev59 lv59 uv59 => ?_)
        have yv59 : v59.toInt = (s).ii v54.toInt.toNat := by rw [ev59]; exact (hp0 _ (by first | with_reducible assumption | omega)).2.1
        refine g_if_lt (fun c60 => ?_) (fun c60 => ?_)
        · refine g_iload_n rfl ?_
          exact g_iret ⟨_, rfl, rfl, (by first | with_reducible assumption | omega), (tp_end q1 (by first | with_reducible assumption | omega))⟩
        · refine g_aload_n rfl ?_
          refine g_gfr hI hw0 rfl ?_
          refine g_iload_n rfl ?_
          refine g_ialoadk hI hw2 rfl (by first | with_reducible assumption | omega) ev59 ?_
          refine g_istore_n (l' := [(0, .ref w), (1, .int a1), (2, .int v59), (3, .int v55)]) rfl rfl ?_
          refine g_iinc (l' := (fun v61 => [(0, .ref w), (1, .int a1), (2, .int v59), (3, .int v61)])) rfl rfl (by decide) (by first | with_reducible assumption | omega) (fun _ => rfl) (fun v61 ev61 => ?_)
          refine g_goto ?_
          exact ihL56 v59 v61 (by first | with_reducible assumption | omega) (by first | with_reducible assumption | omega) (tp_st q1 (by first | with_reducible assumption | omega) (by first | with_reducible assumption | omega) yv59 (by first | with_reducible assumption | omega)) (by first | with_reducible assumption | omega)
  exact L56 _ a1 v53 (by first | with_reducible assumption | omega) (by first | with_reducible assumption | omega) (tp_0 (by first | with_reducible assumption | omega) (by first | with_reducible assumption | omega)) (Nat.lt_succ_self _)
set_option maxRecDepth 4000 in
set_option maxHeartbeats 4000000 in
/-- X8.isIn -/
theorem w_90 {s : pS} (w : Nat) (hw : zWo w) (a1 : Int32) (ha1 : 0 ≤ a1.toInt ∧ a1.toInt ≤ 39) (a2 : Int32) (H : mzH) (hI : gI SX H) (hJ : JX H) (hp0 : wdX H w s) : gCall 90 [.ref w, .int a1, .int a2] H (gRi (fun v H' => H = H' ∧ (0 ≤ v.toInt ∧ v.toInt ≤ 1) ∧ v.toInt = inn s a1.toInt.toNat a2.toInt)) := by
  obtain ⟨hwr, hw0, hw1, hw2, hw3, hw4, hw5, hw6⟩ := id hw
  refine gG_call [(0, .ref w), (1, .int a1), (2, .int a2)] ⟨rfl, rfl, rfl, trivial⟩ ?_
  show gG 5 zB_90 (mzBlk zB_90 0) [(0, .ref w), (1, .int a1), (2, .int a2)] [] H 0 0 _
  refine g_aload_n rfl ?_
  refine g_gfr hI hw0 rfl ?_
  refine g_iload_n rfl ?_
  refine g_iaload hI hw2 rfl (by first | with_reducible assumption | omega) (fun v85 ev85 lv85 uv85 => ?_)
  have yv85 : v85.toInt = (s).ii a1.toInt.toNat := by rw [ev85]; exact (hp0 _ (by first | with_reducible assumption | omega)).2.1
  refine g_istore_n (l' := [(0, .ref w), (1, .int a1), (2, .int a2), (3, .int v85)]) rfl rfl ?_
  refine g_iconst (by decide) (fun v86 kv86 => ?_)
  refine g_istore (l' := [(0, .ref w), (1, .int a1), (2, .int a2), (3, .int v85), (4, .int v86)]) rfl rfl ?_
  refine g_nop ?_
  have L89 : ∀ (N : Nat) (v87 : Int32) (v88 : Int32), (-5 ≤ v87.toInt ∧ v87.toInt ≤ 39) → (0 ≤ v88.toInt ∧ v88.toInt ≤ 2) → inI s a1.toInt.toNat a2.toInt v88.toInt v87.toInt → (2 - v88.toInt).toNat < N → gG 5 zB_90 (mzBlk zB_90 1) [(0, .ref w), (1, .int a1), (2, .int a2), (3, .int v87), (4, .int v88)] [] H 0 0 (gRi (fun v H' => H = H' ∧ (0 ≤ v.toInt ∧ v.toInt ≤ 1) ∧ v.toInt = inn s a1.toInt.toNat a2.toInt)) := by
    intro N
    induction N with
    | zero => intro v87 v88 bv87 bv88 q1 hmL89; exact absurd hmL89 (Nat.not_lt_zero _)
    | succ N ihL89 =>
      intro v87 v88 bv87 bv88 q1 hmL89
      refine g_iload rfl ?_
      refine g_iconst (by decide) (fun v90 kv90 => ?_)
      refine g_if2_ge (fun c91 => ?_) (fun c91 => ?_)
      · refine g_iconst (by decide) (fun v92 kv92 => ?_)
        exact g_zret (by first | with_reducible assumption | omega) ⟨_, rfl, rfl, (by first | with_reducible assumption | omega), (in_n q1 (by first | with_reducible assumption | omega) (by first | with_reducible assumption | omega))⟩
      · refine g_iload_n rfl ?_
        refine g_if_lt (fun c93 => ?_) (fun c93 => ?_)
        · refine g_iconst (by decide) (fun v94 kv94 => ?_)
          exact g_zret (by first | with_reducible assumption | omega) ⟨_, rfl, rfl, (by first | with_reducible assumption | omega), (in_n q1 (by first | with_reducible assumption | omega) (by first | with_reducible assumption | omega))⟩
        · refine g_iload_n rfl ?_
          refine g_iload_n rfl ?_
          refine g_if2_ne (fun c95 => ?_) (fun c95 => ?_)
          · refine g_aload_n rfl ?_
            refine g_gfr hI hw0 rfl ?_
            refine g_iload_n rfl ?_
            refine g_iaload hI hw2 rfl (by first | with_reducible assumption | omega) (fun v96 ev96 lv96 uv96 => ?_)
            have yv96 : v96.toInt = (s).ii v87.toInt.toNat := by rw [ev96]; exact (hp0 _ (by first | with_reducible assumption | omega)).2.1
            refine g_istore_n (l' := [(0, .ref w), (1, .int a1), (2, .int a2), (3, .int v96), (4, .int v88)]) rfl rfl ?_
            refine g_iinc (l' := (fun v97 => [(0, .ref w), (1, .int a1), (2, .int a2), (3, .int v96), (4, .int v97)])) rfl rfl (by decide) (by first | with_reducible assumption | omega) (fun _ => rfl) (fun v97 ev97 => ?_)
            refine g_goto ?_
            exact ihL89 v96 v97 (by first | with_reducible assumption | omega) (by first | with_reducible assumption | omega) (in_st q1 (by first | with_reducible assumption | omega) (by first | with_reducible assumption | omega) (by first | with_reducible assumption | omega) yv96 (by first | with_reducible assumption | omega)) (by first | with_reducible assumption | omega)
          · refine g_iconst (by decide) (fun v98 kv98 => ?_)
            exact g_zret (by first | with_reducible assumption | omega) ⟨_, rfl, rfl, (by first | with_reducible assumption | omega), (in_y q1 (by first | with_reducible assumption | omega) (by first | with_reducible assumption | omega) (by first | with_reducible assumption | omega) (by first | with_reducible assumption | omega))⟩
  exact L89 _ v85 v86 (by first | with_reducible assumption | omega) (by first | with_reducible assumption | omega) (in_0 (by first | with_reducible assumption | omega) yv85) (Nat.lt_succ_self _)
set_option maxRecDepth 4000 in
set_option maxHeartbeats 4000000 in
/-- X8.heldAtOnce -/
theorem w_103 {s : pS} (w : Nat) (hw : zWo w) (a1 : Int32) (H : mzH) (hI : gI SX H) (hJ : JX H) (hp0 : wdX H w s) : gCall 103 [.ref w, .int a1] H (gRi (fun v H' => H = H' ∧ v.toInt = hel s a1.toInt)) := by
  obtain ⟨hwr, hw0, hw1, hw2, hw3, hw4, hw5, hw6⟩ := id hw
  refine gG_call [(0, .ref w), (1, .int a1)] ⟨rfl, rfl, trivial⟩ ?_
  show gG 4 zB_103 (mzBlk zB_103 0) [(0, .ref w), (1, .int a1)] [] H 0 0 _
  refine g_iconst (by decide) (fun v399 kv399 => ?_)
  refine g_istore_n (l' := [(0, .ref w), (1, .int a1), (2, .int v399)]) rfl rfl ?_
  refine g_iconst (by decide) (fun v400 kv400 => ?_)
  refine g_istore_n (l' := [(0, .ref w), (1, .int a1), (2, .int v399), (3, .int v400)]) rfl rfl ?_
  refine g_nop ?_
  have L403 : ∀ (N : Nat) (v401 : Int32) (v402 : Int32), (0 ≤ v402.toInt ∧ v402.toInt ≤ 40) → v401.toInt = cnt (fun x => s.ii x = a1.toInt) v402.toInt.toNat → (0 ≤ v401.toInt ∧ v401.toInt ≤ v402.toInt) → (40 - v402.toInt).toNat < N → gG 4 zB_103 (mzBlk zB_103 1) [(0, .ref w), (1, .int a1), (2, .int v401), (3, .int v402)] [] H 0 0 (gRi (fun v H' => H = H' ∧ v.toInt = hel s a1.toInt)) := by
    intro N
    induction N with
    | zero => intro v401 v402 bv402 q1 q2 hmL403; exact absurd hmL403 (Nat.not_lt_zero _)
    | succ N ihL403 =>
      intro v401 v402 bv402 q1 q2 hmL403
      refine g_iload_n rfl ?_
      refine g_bipush (by decide) (fun v404 kv404 => ?_)
      refine g_if2_ge (fun c405 => ?_) (fun c405 => ?_)
      · refine g_iload_n rfl ?_
        exact g_iret ⟨_, rfl, rfl, (cn_end q1 (by first | with_reducible assumption | omega))⟩
      · refine g_iload_n rfl ?_
        refine g_aload_n rfl ?_
        refine g_gfr hI hw0 rfl ?_
        refine g_iload_n rfl ?_
        refine g_iaload hI hw2 rfl (by first | with_reducible assumption | omega) (fun v406 ev406 lv406 uv406 => ?_)
        have yv406 : v406.toInt = (s).ii v402.toInt.toNat := by rw [ev406]; exact (hp0 _ (by first | with_reducible assumption | omega)).2.1
        refine g_iload_n rfl ?_
        refine g_if2_ne (fun c407 => ?_) (fun c407 => ?_)
        · refine g_iconst (by decide) (fun v408 kv408 => ?_)
          refine g_nop ?_
          refine g_iadd (by have := gz_any v401; omega) (fun v409 ev409 => ?_)
          refine g_istore_n (l' := [(0, .ref w), (1, .int a1), (2, .int v409), (3, .int v402)]) rfl rfl ?_
          refine g_iinc (l' := (fun v410 => [(0, .ref w), (1, .int a1), (2, .int v409), (3, .int v410)])) rfl rfl (by decide) (by first | with_reducible assumption | omega) (fun _ => rfl) (fun v410 ev410 => ?_)
          refine g_goto ?_
          exact ihL403 v409 v410 (by first | with_reducible assumption | omega) (cn_n q1 (by first | with_reducible assumption | omega) (by show ¬ s.ii _ = _; omega) (by first | with_reducible assumption | omega)) (by first | with_reducible assumption | omega) (by first | with_reducible assumption | omega)
        · refine g_iconst (by decide) (fun v411 kv411 => ?_)
          refine g_goto ?_
          refine g_iadd' (fun v412 ov412 => ?_)
          have sv412 : v412.toInt = v401.toInt + v411.toInt := gz_add_of ov412 (by first | with_reducible assumption | omega)
          refine g_istore_n (l' := [(0, .ref w), (1, .int a1), (2, .int v412), (3, .int v402)]) rfl rfl ?_
          refine g_iinc (l' := (fun v413 => [(0, .ref w), (1, .int a1), (2, .int v412), (3, .int v413)])) rfl rfl (by decide) (by first | with_reducible assumption | omega) (fun _ => rfl) (fun v413 ev413 => ?_)
          refine g_goto ?_
          exact ihL403 v412 v413 (by first | with_reducible assumption | omega) (cn_y q1 (by first | with_reducible assumption | omega) (by show s.ii _ = _; omega) (by first | with_reducible assumption | omega)) (by first | with_reducible assumption | omega) (by first | with_reducible assumption | omega)
  exact L403 _ v399 v400 (by first | with_reducible assumption | omega) (cn_0 (by first | with_reducible assumption | omega) (by first | with_reducible assumption | omega)) (by first | with_reducible assumption | omega) (Nat.lt_succ_self _)
set_option maxRecDepth 4000 in
set_option maxHeartbeats 4000000 in
/-- X8.isQuarantinedWithin -/
theorem w_97 {s : pS} (w : Nat) (hw : zWo w) (a1 : Int32) (H : mzH) (hI : gI SX H) (hJ : JX H) (hp0 : wdX H w s) : gCall 97 [.ref w, .int a1] H (gRi (fun v H' => H = H' ∧ (0 ≤ v.toInt ∧ v.toInt ≤ 1) ∧ v.toInt = qwi s a1.toInt)) := by
  obtain ⟨hwr, hw0, hw1, hw2, hw3, hw4, hw5, hw6⟩ := id hw
  refine gG_call [(0, .ref w), (1, .int a1)] ⟨rfl, rfl, trivial⟩ ?_
  show gG 3 zB_97 (mzBlk zB_97 0) [(0, .ref w), (1, .int a1)] [] H 0 0 _
  refine g_iconst (by decide) (fun v249 kv249 => ?_)
  refine g_istore_n (l' := [(0, .ref w), (1, .int a1), (2, .int v249)]) rfl rfl ?_
  refine g_nop ?_
  have L251 : ∀ (N : Nat) (v250 : Int32), (0 ≤ v250.toInt ∧ v250.toInt ≤ 40) → exi (qwP s a1.toInt) v250.toInt.toNat = 0 → (40 - v250.toInt).toNat < N → gG 3 zB_97 (mzBlk zB_97 1) [(0, .ref w), (1, .int a1), (2, .int v250)] [] H 0 0 (gRi (fun v H' => H = H' ∧ (0 ≤ v.toInt ∧ v.toInt ≤ 1) ∧ v.toInt = qwi s a1.toInt)) := by
    intro N
    induction N with
    | zero => intro v250 bv250 q1 hmL251; exact absurd hmL251 (Nat.not_lt_zero _)
    | succ N ihL251 =>
      intro v250 bv250 q1 hmL251
      refine g_iload_n rfl ?_
      refine g_bipush (by decide) (fun v252 kv252 => ?_)
      refine g_if2_ge (fun c253 => ?_) (fun c253 => ?_)
      · refine g_iconst (by decide) (fun v254 kv254 => ?_)
        exact g_zret (by first | with_reducible assumption | omega) ⟨_, rfl, rfl, (by first | with_reducible assumption | omega), (ei_end q1 (by first | with_reducible assumption | omega) (by first | with_reducible assumption | omega))⟩
      · refine g_aload_n rfl ?_
        refine g_iload_n rfl ?_
        refine g_bipush (by decide) (fun v255 kv255 => ?_)
        refine g_invvi hI hw0 rfl rfl rfl rfl (w_85 w hw v250 (by first | with_reducible assumption | omega) v255 H hI hJ hp0 (by first | with_reducible assumption | omega)) (fun v258 H256 r257 => ?_)
        obtain ⟨rfl, bv258, p259⟩ := r257
        rw [kv255, mkb_8] at p259
        refine g_if_eq (fun c260 => ?_) (fun c260 => ?_)
        · refine g_iinc (l' := (fun v261 => [(0, .ref w), (1, .int a1), (2, .int v261)])) rfl rfl (by decide) (by first | with_reducible assumption | omega) (fun _ => rfl) (fun v261 ev261 => ?_)
          refine g_goto ?_
          exact ihL251 v261 (by first | with_reducible assumption | omega) (ei_no q1 (by first | with_reducible assumption | omega) (fun z => by have z1 := z.1; have z2 := z.2; omega)) (by first | with_reducible assumption | omega)
        · refine g_iload_n rfl ?_
          refine g_iload_n rfl ?_
          refine g_if2_eq (fun c262 => ?_) (fun c262 => ?_)
          · refine g_iconst (by decide) (fun v263 kv263 => ?_)
            exact g_zret (by first | with_reducible assumption | omega) ⟨_, rfl, rfl, (by first | with_reducible assumption | omega), (ei_yes (j := v250.toInt.toNat) (by first | with_reducible assumption | omega) ⟨by omega, by omega⟩ (by first | with_reducible assumption | omega))⟩
          · refine g_aload_n rfl ?_
            refine g_iload_n rfl ?_
            refine g_iload_n rfl ?_
            refine g_invvi hI hw0 rfl rfl rfl rfl (w_90 w hw v250 (by first | with_reducible assumption | omega) a1 H hI hJ hp0) (fun v266 H264 r265 => ?_)
            obtain ⟨rfl, bv266, p267⟩ := r265
            have ibv266 := inn_b (s := s) (n := v250.toInt.toNat) (o := a1.toInt)
            refine g_if_eq (fun c268 => ?_) (fun c268 => ?_)
            · refine g_iinc (l' := (fun v269 => [(0, .ref w), (1, .int a1), (2, .int v269)])) rfl rfl (by decide) (by first | with_reducible assumption | omega) (fun _ => rfl) (fun v269 ev269 => ?_)
              refine g_goto ?_
              exact ihL251 v269 (by first | with_reducible assumption | omega) (ei_no q1 (by first | with_reducible assumption | omega) (fun z => by have z1 := z.1; have z2 := z.2; omega)) (by first | with_reducible assumption | omega)
            · refine g_nop ?_
              refine g_iconst (by decide) (fun v270 kv270 => ?_)
              exact g_zret (by first | with_reducible assumption | omega) ⟨_, rfl, rfl, (by first | with_reducible assumption | omega), (ei_yes (j := v250.toInt.toNat) (by first | with_reducible assumption | omega) ⟨by omega, by omega⟩ (by first | with_reducible assumption | omega))⟩
  exact L251 _ v249 (by first | with_reducible assumption | omega) (ei_0 (by first | with_reducible assumption | omega)) (Nat.lt_succ_self _)
set_option maxRecDepth 4000 in
set_option maxHeartbeats 4000000 in
/-- X8.looseWith -/
theorem w_101 {s : pS} (w : Nat) (hw : zWo w) (a1 : Int32) (ha1 : 0 ≤ a1.toInt ∧ a1.toInt ≤ 39) (H : mzH) (hI : gI SX H) (hJ : JX H) (hp0 : wdX H w s) : gCall 101 [.ref w, .int a1] H (gRi (fun v H' => H = H' ∧ (0 ≤ v.toInt ∧ v.toInt ≤ 39) ∧ v.toInt = (loo s a1.toInt.toNat : Int))) := by
  obtain ⟨hwr, hw0, hw1, hw2, hw3, hw4, hw5, hw6⟩ := id hw
  refine gG_call [(0, .ref w), (1, .int a1)] ⟨rfl, rfl, trivial⟩ ?_
  show gG 4 zB_101 (mzBlk zB_101 0) [(0, .ref w), (1, .int a1)] [] H 0 0 _
  refine g_iload_n rfl ?_
  refine g_istore_n (l' := [(0, .ref w), (1, .int a1), (2, .int a1)]) rfl rfl ?_
  refine g_iconst (by decide) (fun v89 kv89 => ?_)
  refine g_istore_n (l' := [(0, .ref w), (1, .int a1), (2, .int a1), (3, .int v89)]) rfl rfl ?_
  refine g_nop ?_
  have L92 : ∀ (N : Nat) (v90 : Int32) (v91 : Int32), (0 ≤ v90.toInt ∧ v90.toInt ≤ 39) → (0 ≤ v91.toInt ∧ v91.toInt ≤ 2) → loI s a1.toInt.toNat v91.toInt v90.toInt → (2 - v91.toInt).toNat < N → gG 4 zB_101 (mzBlk zB_101 1) [(0, .ref w), (1, .int a1), (2, .int v90), (3, .int v91)] [] H 0 0 (gRi (fun v H' => H = H' ∧ (0 ≤ v.toInt ∧ v.toInt ≤ 39) ∧ v.toInt = (loo s a1.toInt.toNat : Int))) := by
    intro N
    induction N with
    | zero => intro v90 v91 bv90 bv91 q1 hmL92; exact absurd hmL92 (Nat.not_lt_zero _)
    | succ N ihL92 =>
      intro v90 v91 bv90 bv91 q1 hmL92
      refine g_iload_n rfl ?_
      refine g_iconst (by decide) (fun v93 kv93 => ?_)
      refine g_if2_ge (fun c94 => ?_) (fun c94 => ?_)
      · refine g_iload_n rfl ?_
        exact g_iret ⟨_, rfl, rfl, (by first | with_reducible assumption | omega), (lo_end q1 (by first | with_reducible assumption | omega))⟩
      · refine g_aload_n rfl ?_
        refine g_gfr hI hw0 rfl ?_
        refine g_iload_n rfl ?_
        refine g_iaload hI hw2 rfl (by first | with_reducible assumption | omega) (fun v95 ev95 lv95 uv95 => ?_)
        have yv95 : v95.toInt = (s).ii v90.toInt.toNat := by rw [ev95]; exact (hp0 _ (by first | with_reducible assumption | omega)).2.1
        refine g_if_lt (fun c96 => ?_) (fun c96 => ?_)
        · refine g_iload_n rfl ?_
          exact g_iret ⟨_, rfl, rfl, (by first | with_reducible assumption | omega), (lo_end q1 (by first | with_reducible assumption | omega))⟩
        · refine g_aload_n rfl ?_
          refine g_aload_n rfl ?_
          refine g_gfr hI hw0 rfl ?_
          refine g_iload_n rfl ?_
          refine g_ialoadk hI hw2 rfl (by first | with_reducible assumption | omega) ev95 ?_
          refine g_iconst (by decide) (fun v97 kv97 => ?_)
          refine g_invvi hI hw0 rfl rfl rfl rfl (w_85 w hw v95 (by first | with_reducible assumption | omega) v97 H hI hJ hp0 (by first | with_reducible assumption | omega)) (fun v100 H98 r99 => ?_)
          obtain ⟨rfl, bv100, p101⟩ := r99
          rw [kv97, mkb_1] at p101
          have p2v100 := p101
          rw [yv95] at p2v100
          refine g_if_eq (fun c102 => ?_) (fun c102 => ?_)
          · refine g_aload_n rfl ?_
            refine g_gfr hI hw0 rfl ?_
            refine g_iload_n rfl ?_
            refine g_ialoadk hI hw2 rfl (by first | with_reducible assumption | omega) ev95 ?_
            refine g_istore_n (l' := [(0, .ref w), (1, .int a1), (2, .int v95), (3, .int v91)]) rfl rfl ?_
            refine g_iinc (l' := (fun v103 => [(0, .ref w), (1, .int a1), (2, .int v95), (3, .int v103)])) rfl rfl (by decide) (by first | with_reducible assumption | omega) (fun _ => rfl) (fun v103 ev103 => ?_)
            refine g_goto ?_
            exact ihL92 v95 v103 (by first | with_reducible assumption | omega) (by first | with_reducible assumption | omega) (lo_st q1 (by first | with_reducible assumption | omega) (by first | with_reducible assumption | omega) (by first | with_reducible assumption | omega) yv95 (by first | with_reducible assumption | omega)) (by first | with_reducible assumption | omega)
          · refine g_iload_n rfl ?_
            exact g_iret ⟨_, rfl, rfl, (by first | with_reducible assumption | omega), (lo_end q1 (by first | with_reducible assumption | omega))⟩
  exact L92 _ a1 v89 (by first | with_reducible assumption | omega) (by first | with_reducible assumption | omega) (lo_0 (by first | with_reducible assumption | omega) (by first | with_reducible assumption | omega)) (Nat.lt_succ_self _)
theorem w_17 (a1 a2 : Int32) (H : mzH) (hI : gI SX H) (hJ : JX H) : gCall 17 [.ref 3, .int a1, .int a2] H (gRi (fun v H' => H = H' ∧ v.toInt = wyX H a1.toInt a2.toInt)) := by
  refine gGo_mono (k_17 a1 a2 H hI hJ) ?_
  rintro o H' ⟨v, rfl, rfl, h⟩
  refine ⟨v, rfl, rfl, ?_⟩
  unfold wyX
  rcases h with ⟨h1, h2⟩ | ⟨h1, h2⟩
  · rw [if_pos h1, h2]
  · rw [if_neg h1]
    exact h2
set_option maxRecDepth 4000 in
set_option maxHeartbeats 4000000 in
/-- X8.isTooSoon -/
theorem w_96 {s : pS} (w : Nat) (hw : zWo w) (a2 : Int32) (ha2 : 0 ≤ a2.toInt ∧ a2.toInt ≤ 39) (a3 : Int32) (a4 : Int32) (ha4 : 0 ≤ a4.toInt ∧ a4.toInt ≤ 999) (H : mzH) (hI : gI SX H) (hJ : JX H) (hp0 : wdX H w s) (hp1 : laB s) : gCall 96 [.ref w, .ref 3, .int a2, .int a3, .int a4] H (gRi (fun v H' => H = H' ∧ (0 ≤ v.toInt ∧ v.toInt ≤ 1) ∧ v.toInt = soo s (wyX H) a2.toInt.toNat a3.toInt a4.toInt)) := by
  obtain ⟨hwr, hw0, hw1, hw2, hw3, hw4, hw5, hw6⟩ := id hw
  refine gG_call [(0, .ref w), (1, .ref 3), (2, .int a2), (3, .int a3), (4, .int a4)] ⟨rfl, rfl, rfl, rfl, rfl, trivial⟩ ?_
  show gG 6 zB_96 (mzBlk zB_96 0) [(0, .ref w), (1, .ref 3), (2, .int a2), (3, .int a3), (4, .int a4)] [] H 0 0 _
  refine g_aload_n rfl ?_
  refine g_gfr hI hw0 rfl ?_
  refine g_iload_n rfl ?_
  refine g_iaload hI hw3 rfl (by first | with_reducible assumption | omega) (fun v61 ev61 lv61 uv61 => ?_)
  have yv61 : v61.toInt = (s).pl a2.toInt.toNat := by rw [ev61]; exact (hp0 _ (by first | with_reducible assumption | omega)).2.2.1
  refine g_iload_n rfl ?_
  refine g_if2_ne (fun c62 => ?_) (fun c62 => ?_)
  · refine g_aload_n rfl ?_
    refine g_aload_n rfl ?_
    refine g_gfr hI hw0 rfl ?_
    refine g_iload_n rfl ?_
    refine g_ialoadk hI hw3 rfl (by first | with_reducible assumption | omega) ev61 ?_
    refine g_iload_n rfl ?_
    refine g_invvi hI sx_3 rfl rfl rfl rfl (w_17 v61 a3 H hI hJ) (fun v65 H63 r64 => ?_)
    obtain ⟨rfl, p66⟩ := r64
    rw [yv61] at p66
    refine g_istore (l' := [(0, .ref w), (1, .ref 3), (2, .int a2), (3, .int a3), (4, .int a4), (5, .int v65)]) rfl rfl ?_
    refine g_iload rfl ?_
    refine g_bipush (by decide) (fun v67 kv67 => ?_)
    refine g_if2_eq (fun c68 => ?_) (fun c68 => ?_)
    · refine g_iconst (by decide) (fun v69 kv69 => ?_)
      refine g_goto ?_
      exact g_zret (by first | with_reducible assumption | omega) ⟨_, rfl, rfl, (by first | with_reducible assumption | omega), (by unfold soo; first | (rw [if_pos (by first | with_reducible assumption | omega)]; omega) | (rw [if_neg (by first | with_reducible assumption | omega), if_pos (by first | with_reducible assumption | omega)]; omega) | (rw [if_neg (by first | with_reducible assumption | omega), if_neg (by first | with_reducible assumption | omega)]; omega))⟩
    · refine g_iload rfl ?_
      refine g_aload_n rfl ?_
      refine g_gfr hI hw0 rfl ?_
      refine g_iload_n rfl ?_
      refine g_iaload hI hw4 rfl (by first | with_reducible assumption | omega) (fun v70 ev70 lv70 uv70 => ?_)
      have yv70 : v70.toInt = (s).la a2.toInt.toNat := by rw [ev70]; exact (hp0 _ (by first | with_reducible assumption | omega)).2.2.2.1
      refine g_isub' (fun v71 ov71 => ?_)
      have lbv71 := hp1 a2.toInt.toNat (by first | with_reducible assumption | omega)
      have sv71 : v71.toInt = a4.toInt - v70.toInt := gz_sub_of ov71 (by first | with_reducible assumption | omega)
      refine g_iload rfl ?_
      refine g_if2_ge (fun c72 => ?_) (fun c72 => ?_)
      · refine g_iconst (by decide) (fun v73 kv73 => ?_)
        refine g_nop ?_
        exact g_zret (by first | with_reducible assumption | omega) ⟨_, rfl, rfl, (by first | with_reducible assumption | omega), (by unfold soo; first | (rw [if_pos (by first | with_reducible assumption | omega)]; omega) | (rw [if_neg (by first | with_reducible assumption | omega), if_pos (by first | with_reducible assumption | omega)]; omega) | (rw [if_neg (by first | with_reducible assumption | omega), if_neg (by first | with_reducible assumption | omega)]; omega))⟩
      · refine g_nop ?_
        refine g_iconst (by decide) (fun v74 kv74 => ?_)
        refine g_goto ?_
        exact g_zret (by first | with_reducible assumption | omega) ⟨_, rfl, rfl, (by first | with_reducible assumption | omega), (by unfold soo; first | (rw [if_pos (by first | with_reducible assumption | omega)]; omega) | (rw [if_neg (by first | with_reducible assumption | omega), if_pos (by first | with_reducible assumption | omega)]; omega) | (rw [if_neg (by first | with_reducible assumption | omega), if_neg (by first | with_reducible assumption | omega)]; omega))⟩
  · refine g_iconst (by decide) (fun v75 kv75 => ?_)
    exact g_zret (by first | with_reducible assumption | omega) ⟨_, rfl, rfl, (by first | with_reducible assumption | omega), (by unfold soo; first | (rw [if_pos (by first | with_reducible assumption | omega)]; omega) | (rw [if_neg (by first | with_reducible assumption | omega), if_pos (by first | with_reducible assumption | omega)]; omega) | (rw [if_neg (by first | with_reducible assumption | omega), if_neg (by first | with_reducible assumption | omega)]; omega))⟩
set_option maxRecDepth 4000 in
set_option maxHeartbeats 4000000 in
/-- X8.objectionToPack -/
theorem w_95 {s : pS} (w : Nat) (hw : zWo w) (a2 : Int32) (ha2 : 0 ≤ a2.toInt ∧ a2.toInt ≤ 39) (a3 : Int32) (ha3 : 0 ≤ a3.toInt ∧ a3.toInt ≤ 39) (H : mzH) (hI : gI SX H) (hJ : JX H) (hp0 : wdX H w s) (hp1 : kdB s) : gCall 95 [.ref w, .ref 3, .int a2, .int a3] H (gRi (fun v H' => H = H' ∧ v.toInt = oPk s (fZ H 3 10).toInt (fZ H 3 11).toInt a2.toInt.toNat a3.toInt.toNat)) := by
  obtain ⟨hwr, hw0, hw1, hw2, hw3, hw4, hw5, hw6⟩ := id hw
  obtain ⟨k3_10, ek3_10⟩ : ∃ z, z = fZ H 3 10 := ⟨_, rfl⟩
  have ik3_10 : k3_10.toInt = (fZ H 3 10).toInt := by rw [← ek3_10]
  obtain ⟨k3_11, ek3_11⟩ : ∃ z, z = fZ H 3 11 := ⟨_, rfl⟩
  have ik3_11 : k3_11.toInt = (fZ H 3 11).toInt := by rw [← ek3_11]
  refine gG_call [(0, .ref w), (1, .ref 3), (2, .int a2), (3, .int a3)] ⟨rfl, rfl, rfl, rfl, trivial⟩ ?_
  show gG 7 zB_95 (mzBlk zB_95 0) [(0, .ref w), (1, .ref 3), (2, .int a2), (3, .int a3)] [] H 0 0 _
  refine g_aload_n rfl ?_
  refine g_iload_n rfl ?_
  refine g_invvi hI hw0 rfl rfl rfl rfl (w_89 w hw a2 (by first | with_reducible assumption | omega) H hI hJ hp0) (fun v223 H221 r222 => ?_)
  obtain ⟨rfl, bv223, p224⟩ := r222
  have tnv223 : v223.toInt.toNat = tp s a2.toInt.toNat := by omega
  refine g_istore (l' := [(0, .ref w), (1, .ref 3), (2, .int a2), (3, .int a3), (4, .int v223)]) rfl rfl ?_
  refine g_aload_n rfl ?_
  refine g_iload_n rfl ?_
  refine g_invvi hI hw0 rfl rfl rfl rfl (w_89 w hw a3 (by first | with_reducible assumption | omega) H hI hJ hp0) (fun v227 H225 r226 => ?_)
  obtain ⟨rfl, bv227, p228⟩ := r226
  have tnv227 : v227.toInt.toNat = tp s a3.toInt.toNat := by omega
  refine g_istore (l' := [(0, .ref w), (1, .ref 3), (2, .int a2), (3, .int a3), (4, .int v223), (5, .int v227)]) rfl rfl ?_
  refine g_aload_n rfl ?_
  refine g_gfr hI hw0 rfl ?_
  refine g_iload_n rfl ?_
  refine g_iaload hI hw1 rfl (by first | with_reducible assumption | omega) (fun v229 ev229 lv229 uv229 => ?_)
  have yv229 : v229.toInt = (s).kd a3.toInt.toNat := by rw [ev229]; exact (hp0 _ (by first | with_reducible assumption | omega)).1
  refine g_aload_n rfl ?_
  refine g_gfr hI hw0 rfl ?_
  refine g_iload_n rfl ?_
  refine g_iaload hI hw1 rfl (by first | with_reducible assumption | omega) (fun v230 ev230 lv230 uv230 => ?_)
  have yv230 : v230.toInt = (s).kd a2.toInt.toNat := by rw [ev230]; exact (hp0 _ (by first | with_reducible assumption | omega)).1
  refine g_iconst (by decide) (fun v231 kv231 => ?_)
  refine g_iadd' (fun v232 ov232 => ?_)
  have sv232 : v232.toInt = v230.toInt + v231.toInt := gz_add_of ov232 (by have := hp1 a2.toInt.toNat (by first | with_reducible assumption | omega); omega)
  refine g_if2_eq (fun c233 => ?_) (fun c233 => ?_)
  · refine g_aload_n rfl ?_
    refine g_gfr hI hw0 rfl ?_
    refine g_iload_n rfl ?_
    refine g_iaload hI hw2 rfl (by first | with_reducible assumption | omega) (fun v234 ev234 lv234 uv234 => ?_)
    have yv234 : v234.toInt = (s).ii a2.toInt.toNat := by rw [ev234]; exact (hp0 _ (by first | with_reducible assumption | omega)).2.1
    refine g_if_lt (fun c235 => ?_) (fun c235 => ?_)
    · refine g_aload_n rfl ?_
      refine g_iload rfl ?_
      refine g_iconst (by decide) (fun v236 kv236 => ?_)
      refine g_invvi hI hw0 rfl rfl rfl rfl (w_85 w hw v223 (by first | with_reducible assumption | omega) v236 H hI hJ hp0 (by first | with_reducible assumption | omega)) (fun v239 H237 r238 => ?_)
      obtain ⟨rfl, bv239, p240⟩ := r238
      rw [kv236, mkb_2] at p240
      rw [tnv223] at p240
      refine g_if_ne (fun c241 => ?_) (fun c241 => ?_)
      · refine g_bipush (by decide) (fun v242 kv242 => ?_)
        exact g_iret ⟨_, rfl, rfl, (by unfold oPk; first | (rw [if_pos (by first | with_reducible assumption | omega)]; omega) | (rw [if_neg (by first | with_reducible assumption | omega), if_pos (by first | with_reducible assumption | omega)]; omega) | (rw [if_neg (by first | with_reducible assumption | omega), if_neg (by first | with_reducible assumption | omega), if_pos (by first | with_reducible assumption | omega)]; omega) | (rw [if_neg (by first | with_reducible assumption | omega), if_neg (by first | with_reducible assumption | omega), if_neg (by first | with_reducible assumption | omega), if_pos (by split <;> omega)]; omega) | (rw [if_neg (by first | with_reducible assumption | omega), if_neg (by first | with_reducible assumption | omega), if_neg (by first | with_reducible assumption | omega), if_neg (by split <;> omega)]; omega))⟩
      · refine g_aload_n rfl ?_
        refine g_iload rfl ?_
        refine g_iconst (by decide) (fun v243 kv243 => ?_)
        refine g_invvi hI hw0 rfl rfl rfl rfl (w_85 w hw v227 (by first | with_reducible assumption | omega) v243 H hI hJ hp0 (by first | with_reducible assumption | omega)) (fun v246 H244 r245 => ?_)
        obtain ⟨rfl, bv246, p247⟩ := r245
        rw [kv243, mkb_2] at p247
        rw [tnv227] at p247
        refine g_if_eq (fun c248 => ?_) (fun c248 => ?_)
        · refine g_aload_n rfl ?_
          refine g_gfr hI hw0 rfl ?_
          refine g_iload_n rfl ?_
          refine g_ialoadk hI hw1 rfl (by first | with_reducible assumption | omega) ev229 ?_
          refine g_iconst (by decide) (fun v249 kv249 => ?_)
          refine g_if2_ne (fun c250 => ?_) (fun c250 => ?_)
          · refine g_aload_n rfl ?_
            refine g_gfk hI sx_3 rfl ek3_11 ?_
            refine g_nop ?_
            refine g_istore (l' := [(0, .ref w), (1, .ref 3), (2, .int a2), (3, .int a3), (4, .int v223), (5, .int v227), (6, .int k3_11)]) rfl rfl ?_
            refine g_aload_n rfl ?_
            refine g_gfr hI hw0 rfl ?_
            refine g_iload rfl ?_
            refine g_iaload hI hw3 rfl (by first | with_reducible assumption | omega) (fun v251 ev251 lv251 uv251 => ?_)
            have yv251 : v251.toInt = (s).pl v223.toInt.toNat := by rw [ev251]; exact (hp0 _ (by first | with_reducible assumption | omega)).2.2.1
            rw [tnv223] at yv251
            refine g_aload_n rfl ?_
            refine g_gfr hI hw0 rfl ?_
            refine g_iload rfl ?_
            refine g_iaload hI hw3 rfl (by first | with_reducible assumption | omega) (fun v252 ev252 lv252 uv252 => ?_)
            have yv252 : v252.toInt = (s).pl v227.toInt.toNat := by rw [ev252]; exact (hp0 _ (by first | with_reducible assumption | omega)).2.2.1
            rw [tnv227] at yv252
            refine g_if2_ne (fun c253 => ?_) (fun c253 => ?_)
            · refine g_bipush (by decide) (fun v254 kv254 => ?_)
              refine g_goto ?_
              exact g_iret ⟨_, rfl, rfl, (by unfold oPk; first | (rw [if_pos (by first | with_reducible assumption | omega)]; omega) | (rw [if_neg (by first | with_reducible assumption | omega), if_pos (by first | with_reducible assumption | omega)]; omega) | (rw [if_neg (by first | with_reducible assumption | omega), if_neg (by first | with_reducible assumption | omega), if_pos (by first | with_reducible assumption | omega)]; omega) | (rw [if_neg (by first | with_reducible assumption | omega), if_neg (by first | with_reducible assumption | omega), if_neg (by first | with_reducible assumption | omega), if_pos (by split <;> omega)]; omega) | (rw [if_neg (by first | with_reducible assumption | omega), if_neg (by first | with_reducible assumption | omega), if_neg (by first | with_reducible assumption | omega), if_neg (by split <;> omega)]; omega))⟩
            · refine g_aload_n rfl ?_
              refine g_iload_n rfl ?_
              refine g_invvi hI hw0 rfl rfl rfl rfl (w_103 w hw a3 H hI hJ hp0) (fun v257 H255 r256 => ?_)
              obtain ⟨rfl, p258⟩ := r256
              have hlv257 : hel s a3.toInt = hel s ((a3.toInt.toNat : Nat) : Int) := by rw [show ((a3.toInt.toNat : Nat) : Int) = a3.toInt by omega]
              refine g_iload rfl ?_
              refine g_if2_lt (fun c259 => ?_) (fun c259 => ?_)
              · refine g_iconst (by decide) (fun v260 kv260 => ?_)
                refine g_nop ?_
                exact g_iret ⟨_, rfl, rfl, (by unfold oPk; first | (rw [if_pos (by first | with_reducible assumption | omega)]; omega) | (rw [if_neg (by first | with_reducible assumption | omega), if_pos (by first | with_reducible assumption | omega)]; omega) | (rw [if_neg (by first | with_reducible assumption | omega), if_neg (by first | with_reducible assumption | omega), if_pos (by first | with_reducible assumption | omega)]; omega) | (rw [if_neg (by first | with_reducible assumption | omega), if_neg (by first | with_reducible assumption | omega), if_neg (by first | with_reducible assumption | omega), if_pos (by split <;> omega)]; omega) | (rw [if_neg (by first | with_reducible assumption | omega), if_neg (by first | with_reducible assumption | omega), if_neg (by first | with_reducible assumption | omega), if_neg (by split <;> omega)]; omega))⟩
              · refine g_nop ?_
                refine g_bipush (by decide) (fun v261 kv261 => ?_)
                refine g_goto ?_
                exact g_iret ⟨_, rfl, rfl, (by unfold oPk; first | (rw [if_pos (by first | with_reducible assumption | omega)]; omega) | (rw [if_neg (by first | with_reducible assumption | omega), if_pos (by first | with_reducible assumption | omega)]; omega) | (rw [if_neg (by first | with_reducible assumption | omega), if_neg (by first | with_reducible assumption | omega), if_pos (by first | with_reducible assumption | omega)]; omega) | (rw [if_neg (by first | with_reducible assumption | omega), if_neg (by first | with_reducible assumption | omega), if_neg (by first | with_reducible assumption | omega), if_pos (by split <;> omega)]; omega) | (rw [if_neg (by first | with_reducible assumption | omega), if_neg (by first | with_reducible assumption | omega), if_neg (by first | with_reducible assumption | omega), if_neg (by split <;> omega)]; omega))⟩
          · refine g_aload_n rfl ?_
            refine g_gfk hI sx_3 rfl ek3_10 ?_
            refine g_goto ?_
            refine g_istore (l' := [(0, .ref w), (1, .ref 3), (2, .int a2), (3, .int a3), (4, .int v223), (5, .int v227), (6, .int k3_10)]) rfl rfl ?_
            refine g_aload_n rfl ?_
            refine g_gfr hI hw0 rfl ?_
            refine g_iload rfl ?_
            refine g_iaload hI hw3 rfl (by first | with_reducible assumption | omega) (fun v262 ev262 lv262 uv262 => ?_)
            have yv262 : v262.toInt = (s).pl v223.toInt.toNat := by rw [ev262]; exact (hp0 _ (by first | with_reducible assumption | omega)).2.2.1
            rw [tnv223] at yv262
            refine g_aload_n rfl ?_
            refine g_gfr hI hw0 rfl ?_
            refine g_iload rfl ?_
            refine g_iaload hI hw3 rfl (by first | with_reducible assumption | omega) (fun v263 ev263 lv263 uv263 => ?_)
            have yv263 : v263.toInt = (s).pl v227.toInt.toNat := by rw [ev263]; exact (hp0 _ (by first | with_reducible assumption | omega)).2.2.1
            rw [tnv227] at yv263
            refine g_if2_ne (fun c264 => ?_) (fun c264 => ?_)
            · refine g_bipush (by decide) (fun v265 kv265 => ?_)
              refine g_goto ?_
              exact g_iret ⟨_, rfl, rfl, (by unfold oPk; first | (rw [if_pos (by first | with_reducible assumption | omega)]; omega) | (rw [if_neg (by first | with_reducible assumption | omega), if_pos (by first | with_reducible assumption | omega)]; omega) | (rw [if_neg (by first | with_reducible assumption | omega), if_neg (by first | with_reducible assumption | omega), if_pos (by first | with_reducible assumption | omega)]; omega) | (rw [if_neg (by first | with_reducible assumption | omega), if_neg (by first | with_reducible assumption | omega), if_neg (by first | with_reducible assumption | omega), if_pos (by split <;> omega)]; omega) | (rw [if_neg (by first | with_reducible assumption | omega), if_neg (by first | with_reducible assumption | omega), if_neg (by first | with_reducible assumption | omega), if_neg (by split <;> omega)]; omega))⟩
            · refine g_aload_n rfl ?_
              refine g_iload_n rfl ?_
              refine g_invvi hI hw0 rfl rfl rfl rfl (w_103 w hw a3 H hI hJ hp0) (fun v268 H266 r267 => ?_)
              obtain ⟨rfl, p269⟩ := r267
              have hlv268 : hel s a3.toInt = hel s ((a3.toInt.toNat : Nat) : Int) := by rw [show ((a3.toInt.toNat : Nat) : Int) = a3.toInt by omega]
              refine g_iload rfl ?_
              refine g_if2_lt (fun c270 => ?_) (fun c270 => ?_)
              · refine g_iconst (by decide) (fun v271 kv271 => ?_)
                refine g_nop ?_
                exact g_iret ⟨_, rfl, rfl, (by unfold oPk; first | (rw [if_pos (by first | with_reducible assumption | omega)]; omega) | (rw [if_neg (by first | with_reducible assumption | omega), if_pos (by first | with_reducible assumption | omega)]; omega) | (rw [if_neg (by first | with_reducible assumption | omega), if_neg (by first | with_reducible assumption | omega), if_pos (by first | with_reducible assumption | omega)]; omega) | (rw [if_neg (by first | with_reducible assumption | omega), if_neg (by first | with_reducible assumption | omega), if_neg (by first | with_reducible assumption | omega), if_pos (by split <;> omega)]; omega) | (rw [if_neg (by first | with_reducible assumption | omega), if_neg (by first | with_reducible assumption | omega), if_neg (by first | with_reducible assumption | omega), if_neg (by split <;> omega)]; omega))⟩
              · refine g_nop ?_
                refine g_bipush (by decide) (fun v272 kv272 => ?_)
                refine g_goto ?_
                exact g_iret ⟨_, rfl, rfl, (by unfold oPk; first | (rw [if_pos (by first | with_reducible assumption | omega)]; omega) | (rw [if_neg (by first | with_reducible assumption | omega), if_pos (by first | with_reducible assumption | omega)]; omega) | (rw [if_neg (by first | with_reducible assumption | omega), if_neg (by first | with_reducible assumption | omega), if_pos (by first | with_reducible assumption | omega)]; omega) | (rw [if_neg (by first | with_reducible assumption | omega), if_neg (by first | with_reducible assumption | omega), if_neg (by first | with_reducible assumption | omega), if_pos (by split <;> omega)]; omega) | (rw [if_neg (by first | with_reducible assumption | omega), if_neg (by first | with_reducible assumption | omega), if_neg (by first | with_reducible assumption | omega), if_neg (by split <;> omega)]; omega))⟩
        · refine g_nop ?_
          refine g_bipush (by decide) (fun v273 kv273 => ?_)
          exact g_iret ⟨_, rfl, rfl, (by unfold oPk; first | (rw [if_pos (by first | with_reducible assumption | omega)]; omega) | (rw [if_neg (by first | with_reducible assumption | omega), if_pos (by first | with_reducible assumption | omega)]; omega) | (rw [if_neg (by first | with_reducible assumption | omega), if_neg (by first | with_reducible assumption | omega), if_pos (by first | with_reducible assumption | omega)]; omega) | (rw [if_neg (by first | with_reducible assumption | omega), if_neg (by first | with_reducible assumption | omega), if_neg (by first | with_reducible assumption | omega), if_pos (by split <;> omega)]; omega) | (rw [if_neg (by first | with_reducible assumption | omega), if_neg (by first | with_reducible assumption | omega), if_neg (by first | with_reducible assumption | omega), if_neg (by split <;> omega)]; omega))⟩
    · refine g_iconst (by decide) (fun v274 kv274 => ?_)
      exact g_iret ⟨_, rfl, rfl, (by unfold oPk; first | (rw [if_pos (by first | with_reducible assumption | omega)]; omega) | (rw [if_neg (by first | with_reducible assumption | omega), if_pos (by first | with_reducible assumption | omega)]; omega) | (rw [if_neg (by first | with_reducible assumption | omega), if_neg (by first | with_reducible assumption | omega), if_pos (by first | with_reducible assumption | omega)]; omega) | (rw [if_neg (by first | with_reducible assumption | omega), if_neg (by first | with_reducible assumption | omega), if_neg (by first | with_reducible assumption | omega), if_pos (by split <;> omega)]; omega) | (rw [if_neg (by first | with_reducible assumption | omega), if_neg (by first | with_reducible assumption | omega), if_neg (by first | with_reducible assumption | omega), if_neg (by split <;> omega)]; omega))⟩
  · refine g_iconst (by decide) (fun v275 kv275 => ?_)
    exact g_iret ⟨_, rfl, rfl, (by unfold oPk; first | (rw [if_pos (by first | with_reducible assumption | omega)]; omega) | (rw [if_neg (by first | with_reducible assumption | omega), if_pos (by first | with_reducible assumption | omega)]; omega) | (rw [if_neg (by first | with_reducible assumption | omega), if_neg (by first | with_reducible assumption | omega), if_pos (by first | with_reducible assumption | omega)]; omega) | (rw [if_neg (by first | with_reducible assumption | omega), if_neg (by first | with_reducible assumption | omega), if_neg (by first | with_reducible assumption | omega), if_pos (by split <;> omega)]; omega) | (rw [if_neg (by first | with_reducible assumption | omega), if_neg (by first | with_reducible assumption | omega), if_neg (by first | with_reducible assumption | omega), if_neg (by split <;> omega)]; omega))⟩
set_option maxRecDepth 4000 in
set_option maxHeartbeats 4000000 in
/-- X8.objection -/
theorem w_94 {s : pS} (w : Nat) (hw : zWo w) (a2 : Int32) (ha2 : 0 ≤ a2.toInt ∧ a2.toInt ≤ 59) (a3 : Int32) (ha3 : 0 ≤ a3.toInt ∧ a3.toInt ≤ 999) (H : mzH) (hI : gI SX H) (hJ : JX H) (hp0 : wdX H w s) (hp1 : laB s) (hp2 : kdB s) (hp3 : (0 ≤ (aZ H 7 a2.toInt.toNat).toInt ∧ (aZ H 7 a2.toInt.toNat).toInt ≤ 10)) : gCall 94 [.ref w, .ref 3, .int a2, .int a3] H (gRi (fun v H' => H = H' ∧ v.toInt = obj s (wyX H) (fZ H 3 10).toInt (fZ H 3 11).toInt (aZ H 7 a2.toInt.toNat).toInt (aZ H 8 a2.toInt.toNat).toInt.toNat (aZ H 9 a2.toInt.toNat).toInt a3.toInt)) := by
  obtain ⟨hwr, hw0, hw1, hw2, hw3, hw4, hw5, hw6⟩ := id hw
  refine gG_call [(0, .ref w), (1, .ref 3), (2, .int a2), (3, .int a3)] ⟨rfl, rfl, rfl, rfl, trivial⟩ ?_
  show gG 10 zB_94 (mzBlk zB_94 0) [(0, .ref w), (1, .ref 3), (2, .int a2), (3, .int a3)] [] H 0 0 _
  refine g_aload_n rfl ?_
  refine g_gfr hI sx_3 rfl ?_
  refine g_iload_n rfl ?_
  refine g_iaload hI sx_7 rfl (by first | with_reducible assumption | omega) (fun v749 ev749 lv749 uv749 => ?_)
  have zv749 : v749.toInt = (aZ H 7 a2.toInt.toNat).toInt := by rw [ev749]
  refine g_istore (l' := [(0, .ref w), (1, .ref 3), (2, .int a2), (3, .int a3), (4, .int v749)]) rfl rfl ?_
  refine g_aload_n rfl ?_
  refine g_gfr hI sx_3 rfl ?_
  refine g_iload_n rfl ?_
  refine g_iaload hI sx_8 rfl (by first | with_reducible assumption | omega) (fun v750 ev750 lv750 uv750 => ?_)
  have zv750 : v750.toInt = (aZ H 8 a2.toInt.toNat).toInt := by rw [ev750]
  refine g_istore (l' := [(0, .ref w), (1, .ref 3), (2, .int a2), (3, .int a3), (4, .int v749), (5, .int v750)]) rfl rfl ?_
  refine g_iload rfl ?_
  refine g_if_ne (fun c751 => ?_) (fun c751 => ?_)
  · refine g_iload rfl ?_
    refine g_iconst (by decide) (fun v752 kv752 => ?_)
    refine g_if2_ne (fun c753 => ?_) (fun c753 => ?_)
    · refine g_iload rfl ?_
      refine g_nop ?_
      refine g_istore (l' := [(0, .ref w), (1, .ref 3), (2, .int a2), (3, .int a3), (4, .int v749), (5, .int v750), (6, .int v750)]) rfl rfl ?_
      refine g_aload_n rfl ?_
      refine g_iload rfl ?_
      refine g_invvi hI hw0 rfl rfl rfl rfl (w_88 w hw v750 (by first | with_reducible assumption | omega) H hI hJ hp0) (fun v756 H754 r755 => ?_)
      obtain ⟨rfl, bv756, p757⟩ := r755
      refine g_if_eq (fun c758 => ?_) (fun c758 => ?_)
      · refine g_iconst (by decide) (fun v759 kv759 => ?_)
        exact g_iret ⟨_, rfl, rfl, (by rw [← zv749, ← zv750]; rw [ob_2 (by first | with_reducible assumption | omega) (by first | with_reducible assumption | omega)]; omega)⟩
      · refine g_aload_n rfl ?_
        refine g_iload rfl ?_
        refine g_invvi hI hw0 rfl rfl rfl rfl (w_88 w hw v750 (by first | with_reducible assumption | omega) H hI hJ hp0) (fun v762 H760 r761 => ?_)
        obtain ⟨rfl, bv762, p763⟩ := r761
        refine g_if_ne (fun c764 => ?_) (fun c764 => ?_)
        · refine g_aload_n rfl ?_
          refine g_iload rfl ?_
          refine g_iconst (by decide) (fun v765 kv765 => ?_)
          refine g_invvi hI hw0 rfl rfl rfl rfl (w_85 w hw v750 (by first | with_reducible assumption | omega) v765 H hI hJ hp0 (by first | with_reducible assumption | omega)) (fun v768 H766 r767 => ?_)
          obtain ⟨rfl, bv768, p769⟩ := r767
          rw [kv765, mkb_4] at p769
          refine g_if_ne (fun c770 => ?_) (fun c770 => ?_)
          · refine g_iconst (by decide) (fun v771 kv771 => ?_)
            exact g_iret ⟨_, rfl, rfl, (by rw [← zv749, ← zv750]; rw [ob_3 (by first | with_reducible assumption | omega) (by first | with_reducible assumption | omega) (by first | with_reducible assumption | omega)]; omega)⟩
          · refine g_aload_n rfl ?_
            refine g_iload rfl ?_
            refine g_iconst (by decide) (fun v772 kv772 => ?_)
            refine g_invvi hI hw0 rfl rfl rfl rfl (w_85 w hw v750 (by first | with_reducible assumption | omega) v772 H hI hJ hp0 (by first | with_reducible assumption | omega)) (fun v775 H773 r774 => ?_)
            obtain ⟨rfl, bv775, p776⟩ := r774
            rw [kv772, mkb_4] at p776
            refine g_if_eq (fun c777 => ?_) (fun c777 => ?_)
            · refine g_aload_n rfl ?_
              refine g_iload rfl ?_
              refine g_invvi hI hw0 rfl rfl rfl rfl (w_89 w hw v750 (by first | with_reducible assumption | omega) H hI hJ hp0) (fun v780 H778 r779 => ?_)
              obtain ⟨rfl, bv780, p781⟩ := r779
              have tnv780 : v780.toInt.toNat = tp s v750.toInt.toNat := by omega
              refine g_istore (l' := [(0, .ref w), (1, .ref 3), (2, .int a2), (3, .int a3), (4, .int v749), (5, .int v750), (6, .int v750), (7, .int v780)]) rfl rfl ?_
              refine g_aload_n rfl ?_
              refine g_iload rfl ?_
              refine g_iconst (by decide) (fun v782 kv782 => ?_)
              refine g_invvi hI hw0 rfl rfl rfl rfl (w_85 w hw v780 (by first | with_reducible assumption | omega) v782 H hI hJ hp0 (by first | with_reducible assumption | omega)) (fun v785 H783 r784 => ?_)
              obtain ⟨rfl, bv785, p786⟩ := r784
              rw [kv782, mkb_2] at p786
              rw [tnv780] at p786
              refine g_istore (l' := [(0, .ref w), (1, .ref 3), (2, .int a2), (3, .int a3), (4, .int v749), (5, .int v750), (6, .int v750), (7, .int v780), (8, .int v785)]) rfl rfl ?_
              refine g_iload rfl ?_
              refine g_sw (by decide) (fun c787 => ?_) ⟨fun c787 => ?_, fun c787 => ?_, fun c787 => ?_, fun c787 => ?_, fun c787 => ?_, fun c787 => ?_, fun c787 => ?_, fun c787 => ?_, fun c787 => ?_, fun c787 => ?_, trivial⟩
              · refine g_iconst (by decide) (fun v788 kv788 => ?_)
                exact g_iret ⟨_, rfl, rfl, (by rw [← zv749, ← zv750]; rw [ob_k9 (by first | with_reducible assumption | omega) (by first | with_reducible assumption | omega) (by first | with_reducible assumption | omega)]; omega)⟩
              · refine g_aload_n rfl ?_
                refine g_aload_n rfl ?_
                refine g_iload rfl ?_
                refine g_iload rfl ?_
                refine g_invvi hI hw0 rfl rfl rfl rfl (w_95 w hw v750 (by first | with_reducible assumption | omega) v750 (by first | with_reducible assumption | omega) H hI hJ hp0 hp2) (fun v791 H789 r790 => ?_)
                obtain ⟨rfl, p792⟩ := r790
                refine g_istore (l' := [(0, .ref w), (1, .ref 3), (2, .int a2), (3, .int a3), (4, .int v749), (5, .int v750), (6, .int v750), (7, .int v780), (8, .int v785), (9, .int v791)]) rfl rfl ?_
                refine g_iload rfl ?_
                refine g_if_ne (fun c793 => ?_) (fun c793 => ?_)
                · refine g_iload rfl ?_
                  refine g_nop ?_
                  exact g_iret ⟨_, rfl, rfl, (by rw [← zv749, ← zv750]; rw [ob_k1 (by first | with_reducible assumption | omega) (by first | with_reducible assumption | omega) (by first | with_reducible assumption | omega)]; first | omega | (rw [if_pos (by first | with_reducible assumption | omega)]; omega) | (rw [if_neg (by first | with_reducible assumption | omega), if_pos (by first | with_reducible assumption | omega)]; omega) | (rw [if_neg (by first | with_reducible assumption | omega), if_neg (by first | with_reducible assumption | omega), if_pos (by first | with_reducible assumption | omega)]; omega) | (rw [if_neg (by first | with_reducible assumption | omega), if_neg (by first | with_reducible assumption | omega), if_neg (by first | with_reducible assumption | omega)]; omega) | (rw [if_neg (by first | with_reducible assumption | omega), if_neg (by first | with_reducible assumption | omega)]; omega) | (rw [if_neg (by first | with_reducible assumption | omega)]; omega))⟩
                · refine g_aload_n rfl ?_
                  refine g_iload rfl ?_
                  refine g_invvi hI hw0 rfl rfl rfl rfl (w_97 w hw v750 H hI hJ hp0) (fun v796 H794 r795 => ?_)
                  obtain ⟨rfl, bv796, p797⟩ := r795
                  have qnv796 : qwi s v750.toInt = qwi s ((v750.toInt.toNat : Nat) : Int) := by rw [show ((v750.toInt.toNat : Nat) : Int) = v750.toInt by omega]
                  refine g_if_eq (fun c798 => ?_) (fun c798 => ?_)
                  · refine g_iload rfl ?_
                    refine g_nop ?_
                    exact g_iret ⟨_, rfl, rfl, (by rw [← zv749, ← zv750]; rw [ob_k1 (by first | with_reducible assumption | omega) (by first | with_reducible assumption | omega) (by first | with_reducible assumption | omega)]; first | omega | (rw [if_pos (by first | with_reducible assumption | omega)]; omega) | (rw [if_neg (by first | with_reducible assumption | omega), if_pos (by first | with_reducible assumption | omega)]; omega) | (rw [if_neg (by first | with_reducible assumption | omega), if_neg (by first | with_reducible assumption | omega), if_pos (by first | with_reducible assumption | omega)]; omega) | (rw [if_neg (by first | with_reducible assumption | omega), if_neg (by first | with_reducible assumption | omega), if_neg (by first | with_reducible assumption | omega)]; omega) | (rw [if_neg (by first | with_reducible assumption | omega), if_neg (by first | with_reducible assumption | omega)]; omega) | (rw [if_neg (by first | with_reducible assumption | omega)]; omega))⟩
                  · refine g_bipush (by decide) (fun v799 kv799 => ?_)
                    refine g_goto ?_
                    exact g_iret ⟨_, rfl, rfl, (by rw [← zv749, ← zv750]; rw [ob_k1 (by first | with_reducible assumption | omega) (by first | with_reducible assumption | omega) (by first | with_reducible assumption | omega)]; first | omega | (rw [if_pos (by first | with_reducible assumption | omega)]; omega) | (rw [if_neg (by first | with_reducible assumption | omega), if_pos (by first | with_reducible assumption | omega)]; omega) | (rw [if_neg (by first | with_reducible assumption | omega), if_neg (by first | with_reducible assumption | omega), if_pos (by first | with_reducible assumption | omega)]; omega) | (rw [if_neg (by first | with_reducible assumption | omega), if_neg (by first | with_reducible assumption | omega), if_neg (by first | with_reducible assumption | omega)]; omega) | (rw [if_neg (by first | with_reducible assumption | omega), if_neg (by first | with_reducible assumption | omega)]; omega) | (rw [if_neg (by first | with_reducible assumption | omega)]; omega))⟩
              · refine g_aload_n rfl ?_
                refine g_gfr hI hw0 rfl ?_
                refine g_iload rfl ?_
                refine g_iaload hI hw2 rfl (by first | with_reducible assumption | omega) (fun v800 ev800 lv800 uv800 => ?_)
                have yv800 : v800.toInt = (s).ii v750.toInt.toNat := by rw [ev800]; exact (hp0 _ (by first | with_reducible assumption | omega)).2.1
                refine g_if_ge (fun c801 => ?_) (fun c801 => ?_)
                · refine g_iload rfl ?_
                  refine g_if_eq (fun c802 => ?_) (fun c802 => ?_)
                  · refine g_iconst (by decide) (fun v803 kv803 => ?_)
                    refine g_nop ?_
                    exact g_iret ⟨_, rfl, rfl, (by rw [← zv749, ← zv750]; rw [ob_k2 (by first | with_reducible assumption | omega) (by first | with_reducible assumption | omega) (by first | with_reducible assumption | omega)]; first | omega | (rw [if_pos (by first | with_reducible assumption | omega)]; omega) | (rw [if_neg (by first | with_reducible assumption | omega), if_pos (by first | with_reducible assumption | omega)]; omega) | (rw [if_neg (by first | with_reducible assumption | omega), if_neg (by first | with_reducible assumption | omega), if_pos (by first | with_reducible assumption | omega)]; omega) | (rw [if_neg (by first | with_reducible assumption | omega), if_neg (by first | with_reducible assumption | omega), if_neg (by first | with_reducible assumption | omega)]; omega) | (rw [if_neg (by first | with_reducible assumption | omega), if_neg (by first | with_reducible assumption | omega)]; omega) | (rw [if_neg (by first | with_reducible assumption | omega)]; omega))⟩
                  · refine g_bipush (by decide) (fun v804 kv804 => ?_)
                    refine g_goto ?_
                    exact g_iret ⟨_, rfl, rfl, (by rw [← zv749, ← zv750]; rw [ob_k2 (by first | with_reducible assumption | omega) (by first | with_reducible assumption | omega) (by first | with_reducible assumption | omega)]; first | omega | (rw [if_pos (by first | with_reducible assumption | omega)]; omega) | (rw [if_neg (by first | with_reducible assumption | omega), if_pos (by first | with_reducible assumption | omega)]; omega) | (rw [if_neg (by first | with_reducible assumption | omega), if_neg (by first | with_reducible assumption | omega), if_pos (by first | with_reducible assumption | omega)]; omega) | (rw [if_neg (by first | with_reducible assumption | omega), if_neg (by first | with_reducible assumption | omega), if_neg (by first | with_reducible assumption | omega)]; omega) | (rw [if_neg (by first | with_reducible assumption | omega), if_neg (by first | with_reducible assumption | omega)]; omega) | (rw [if_neg (by first | with_reducible assumption | omega)]; omega))⟩
                · refine g_iconst (by decide) (fun v805 kv805 => ?_)
                  refine g_goto ?_
                  exact g_iret ⟨_, rfl, rfl, (by rw [← zv749, ← zv750]; rw [ob_k2 (by first | with_reducible assumption | omega) (by first | with_reducible assumption | omega) (by first | with_reducible assumption | omega)]; first | omega | (rw [if_pos (by first | with_reducible assumption | omega)]; omega) | (rw [if_neg (by first | with_reducible assumption | omega), if_pos (by first | with_reducible assumption | omega)]; omega) | (rw [if_neg (by first | with_reducible assumption | omega), if_neg (by first | with_reducible assumption | omega), if_pos (by first | with_reducible assumption | omega)]; omega) | (rw [if_neg (by first | with_reducible assumption | omega), if_neg (by first | with_reducible assumption | omega), if_neg (by first | with_reducible assumption | omega)]; omega) | (rw [if_neg (by first | with_reducible assumption | omega), if_neg (by first | with_reducible assumption | omega)]; omega) | (rw [if_neg (by first | with_reducible assumption | omega)]; omega))⟩
              · refine g_iload rfl ?_
                refine g_if_eq (fun c806 => ?_) (fun c806 => ?_)
                · refine g_aload_n rfl ?_
                  refine g_iload rfl ?_
                  refine g_iconst (by decide) (fun v807 kv807 => ?_)
                  refine g_invvi hI hw0 rfl rfl rfl rfl (w_85 w hw v750 (by first | with_reducible assumption | omega) v807 H hI hJ hp0 (by first | with_reducible assumption | omega)) (fun v810 H808 r809 => ?_)
                  obtain ⟨rfl, bv810, p811⟩ := r809
                  rw [kv807, mkb_1] at p811
                  refine g_if_ne (fun c812 => ?_) (fun c812 => ?_)
                  · refine g_bipush (by decide) (fun v813 kv813 => ?_)
                    refine g_goto ?_
                    exact g_iret ⟨_, rfl, rfl, (by rw [← zv749, ← zv750]; rw [ob_k3 (by first | with_reducible assumption | omega) (by first | with_reducible assumption | omega) (by first | with_reducible assumption | omega)]; first | omega | (rw [if_pos (by first | with_reducible assumption | omega)]; omega) | (rw [if_neg (by first | with_reducible assumption | omega), if_pos (by first | with_reducible assumption | omega)]; omega) | (rw [if_neg (by first | with_reducible assumption | omega), if_neg (by first | with_reducible assumption | omega), if_pos (by first | with_reducible assumption | omega)]; omega) | (rw [if_neg (by first | with_reducible assumption | omega), if_neg (by first | with_reducible assumption | omega), if_neg (by first | with_reducible assumption | omega)]; omega) | (rw [if_neg (by first | with_reducible assumption | omega), if_neg (by first | with_reducible assumption | omega)]; omega) | (rw [if_neg (by first | with_reducible assumption | omega)]; omega))⟩
                  · refine g_aload_n rfl ?_
                    refine g_gfr hI hw0 rfl ?_
                    refine g_iload rfl ?_
                    refine g_iaload hI hw1 rfl (by first | with_reducible assumption | omega) (fun v814 ev814 lv814 uv814 => ?_)
                    have yv814 : v814.toInt = (s).kd v750.toInt.toNat := by rw [ev814]; exact (hp0 _ (by first | with_reducible assumption | omega)).1
                    refine g_if_ne (fun c815 => ?_) (fun c815 => ?_)
                    · refine g_iconst (by decide) (fun v816 kv816 => ?_)
                      refine g_nop ?_
                      exact g_iret ⟨_, rfl, rfl, (by rw [← zv749, ← zv750]; rw [ob_k3 (by first | with_reducible assumption | omega) (by first | with_reducible assumption | omega) (by first | with_reducible assumption | omega)]; first | omega | (rw [if_pos (by first | with_reducible assumption | omega)]; omega) | (rw [if_neg (by first | with_reducible assumption | omega), if_pos (by first | with_reducible assumption | omega)]; omega) | (rw [if_neg (by first | with_reducible assumption | omega), if_neg (by first | with_reducible assumption | omega), if_pos (by first | with_reducible assumption | omega)]; omega) | (rw [if_neg (by first | with_reducible assumption | omega), if_neg (by first | with_reducible assumption | omega), if_neg (by first | with_reducible assumption | omega)]; omega) | (rw [if_neg (by first | with_reducible assumption | omega), if_neg (by first | with_reducible assumption | omega)]; omega) | (rw [if_neg (by first | with_reducible assumption | omega)]; omega))⟩
                    · refine g_nop ?_
                      refine g_bipush (by decide) (fun v817 kv817 => ?_)
                      refine g_goto ?_
                      exact g_iret ⟨_, rfl, rfl, (by rw [← zv749, ← zv750]; rw [ob_k3 (by first | with_reducible assumption | omega) (by first | with_reducible assumption | omega) (by first | with_reducible assumption | omega)]; first | omega | (rw [if_pos (by first | with_reducible assumption | omega)]; omega) | (rw [if_neg (by first | with_reducible assumption | omega), if_pos (by first | with_reducible assumption | omega)]; omega) | (rw [if_neg (by first | with_reducible assumption | omega), if_neg (by first | with_reducible assumption | omega), if_pos (by first | with_reducible assumption | omega)]; omega) | (rw [if_neg (by first | with_reducible assumption | omega), if_neg (by first | with_reducible assumption | omega), if_neg (by first | with_reducible assumption | omega)]; omega) | (rw [if_neg (by first | with_reducible assumption | omega), if_neg (by first | with_reducible assumption | omega)]; omega) | (rw [if_neg (by first | with_reducible assumption | omega)]; omega))⟩
                · refine g_bipush (by decide) (fun v818 kv818 => ?_)
                  refine g_goto ?_
                  exact g_iret ⟨_, rfl, rfl, (by rw [← zv749, ← zv750]; rw [ob_k3 (by first | with_reducible assumption | omega) (by first | with_reducible assumption | omega) (by first | with_reducible assumption | omega)]; first | omega | (rw [if_pos (by first | with_reducible assumption | omega)]; omega) | (rw [if_neg (by first | with_reducible assumption | omega), if_pos (by first | with_reducible assumption | omega)]; omega) | (rw [if_neg (by first | with_reducible assumption | omega), if_neg (by first | with_reducible assumption | omega), if_pos (by first | with_reducible assumption | omega)]; omega) | (rw [if_neg (by first | with_reducible assumption | omega), if_neg (by first | with_reducible assumption | omega), if_neg (by first | with_reducible assumption | omega)]; omega) | (rw [if_neg (by first | with_reducible assumption | omega), if_neg (by first | with_reducible assumption | omega)]; omega) | (rw [if_neg (by first | with_reducible assumption | omega)]; omega))⟩
              · refine g_iload rfl ?_
                refine g_if_eq (fun c819 => ?_) (fun c819 => ?_)
                · refine g_aload_n rfl ?_
                  refine g_iload rfl ?_
                  refine g_iconst (by decide) (fun v820 kv820 => ?_)
                  refine g_invvi hI hw0 rfl rfl rfl rfl (w_85 w hw v750 (by first | with_reducible assumption | omega) v820 H hI hJ hp0 (by first | with_reducible assumption | omega)) (fun v823 H821 r822 => ?_)
                  obtain ⟨rfl, bv823, p824⟩ := r822
                  rw [kv820, mkb_1] at p824
                  refine g_if_eq (fun c825 => ?_) (fun c825 => ?_)
                  · refine g_bipush (by decide) (fun v826 kv826 => ?_)
                    refine g_nop ?_
                    exact g_iret ⟨_, rfl, rfl, (by rw [← zv749, ← zv750]; rw [ob_k4 (by first | with_reducible assumption | omega) (by first | with_reducible assumption | omega) (by first | with_reducible assumption | omega)]; first | omega | (rw [if_pos (by first | with_reducible assumption | omega)]; omega) | (rw [if_neg (by first | with_reducible assumption | omega), if_pos (by first | with_reducible assumption | omega)]; omega) | (rw [if_neg (by first | with_reducible assumption | omega), if_neg (by first | with_reducible assumption | omega), if_pos (by first | with_reducible assumption | omega)]; omega) | (rw [if_neg (by first | with_reducible assumption | omega), if_neg (by first | with_reducible assumption | omega), if_neg (by first | with_reducible assumption | omega)]; omega) | (rw [if_neg (by first | with_reducible assumption | omega), if_neg (by first | with_reducible assumption | omega)]; omega) | (rw [if_neg (by first | with_reducible assumption | omega)]; omega))⟩
                  · refine g_iconst (by decide) (fun v827 kv827 => ?_)
                    refine g_goto ?_
                    exact g_iret ⟨_, rfl, rfl, (by rw [← zv749, ← zv750]; rw [ob_k4 (by first | with_reducible assumption | omega) (by first | with_reducible assumption | omega) (by first | with_reducible assumption | omega)]; first | omega | (rw [if_pos (by first | with_reducible assumption | omega)]; omega) | (rw [if_neg (by first | with_reducible assumption | omega), if_pos (by first | with_reducible assumption | omega)]; omega) | (rw [if_neg (by first | with_reducible assumption | omega), if_neg (by first | with_reducible assumption | omega), if_pos (by first | with_reducible assumption | omega)]; omega) | (rw [if_neg (by first | with_reducible assumption | omega), if_neg (by first | with_reducible assumption | omega), if_neg (by first | with_reducible assumption | omega)]; omega) | (rw [if_neg (by first | with_reducible assumption | omega), if_neg (by first | with_reducible assumption | omega)]; omega) | (rw [if_neg (by first | with_reducible assumption | omega)]; omega))⟩
                · refine g_bipush (by decide) (fun v828 kv828 => ?_)
                  refine g_goto ?_
                  exact g_iret ⟨_, rfl, rfl, (by rw [← zv749, ← zv750]; rw [ob_k4 (by first | with_reducible assumption | omega) (by first | with_reducible assumption | omega) (by first | with_reducible assumption | omega)]; first | omega | (rw [if_pos (by first | with_reducible assumption | omega)]; omega) | (rw [if_neg (by first | with_reducible assumption | omega), if_pos (by first | with_reducible assumption | omega)]; omega) | (rw [if_neg (by first | with_reducible assumption | omega), if_neg (by first | with_reducible assumption | omega), if_pos (by first | with_reducible assumption | omega)]; omega) | (rw [if_neg (by first | with_reducible assumption | omega), if_neg (by first | with_reducible assumption | omega), if_neg (by first | with_reducible assumption | omega)]; omega) | (rw [if_neg (by first | with_reducible assumption | omega), if_neg (by first | with_reducible assumption | omega)]; omega) | (rw [if_neg (by first | with_reducible assumption | omega)]; omega))⟩
              · refine g_iload rfl ?_
                refine g_if_eq (fun c829 => ?_) (fun c829 => ?_)
                · refine g_aload_n rfl ?_
                  refine g_gfr hI hw0 rfl ?_
                  refine g_iload rfl ?_
                  refine g_iaload hI hw2 rfl (by first | with_reducible assumption | omega) (fun v830 ev830 lv830 uv830 => ?_)
                  have yv830 : v830.toInt = (s).ii v750.toInt.toNat := by rw [ev830]; exact (hp0 _ (by first | with_reducible assumption | omega)).2.1
                  refine g_if_lt (fun c831 => ?_) (fun c831 => ?_)
                  · refine g_aload_n rfl ?_
                    refine g_aload_n rfl ?_
                    refine g_iload rfl ?_
                    refine g_aload_n rfl ?_
                    refine g_gfr hI sx_3 rfl ?_
                    refine g_iload_n rfl ?_
                    refine g_iaload hI sx_9 rfl (by first | with_reducible assumption | omega) (fun v832 ev832 lv832 uv832 => ?_)
                    have zv832 : v832.toInt = (aZ H 9 a2.toInt.toNat).toInt := by rw [ev832]
                    refine g_iload_n rfl ?_
                    refine g_invvi hI hw0 rfl rfl rfl rfl (w_96 w hw v780 (by first | with_reducible assumption | omega) v832 a3 (by first | with_reducible assumption | omega) H hI hJ hp0 hp1) (fun v835 H833 r834 => ?_)
                    obtain ⟨rfl, bv835, p836⟩ := r834
                    rw [tnv780] at p836
                    refine g_if_eq (fun c837 => ?_) (fun c837 => ?_)
                    · refine g_iconst (by decide) (fun v838 kv838 => ?_)
                      refine g_nop ?_
                      exact g_iret ⟨_, rfl, rfl, (by rw [← zv749, ← zv750, ← zv832]; rw [ob_k5 (by first | with_reducible assumption | omega) (by first | with_reducible assumption | omega) (by first | with_reducible assumption | omega)]; first | omega | (rw [if_pos (by first | with_reducible assumption | omega)]; omega) | (rw [if_neg (by first | with_reducible assumption | omega), if_pos (by first | with_reducible assumption | omega)]; omega) | (rw [if_neg (by first | with_reducible assumption | omega), if_neg (by first | with_reducible assumption | omega), if_pos (by first | with_reducible assumption | omega)]; omega) | (rw [if_neg (by first | with_reducible assumption | omega), if_neg (by first | with_reducible assumption | omega), if_neg (by first | with_reducible assumption | omega)]; omega) | (rw [if_neg (by first | with_reducible assumption | omega), if_neg (by first | with_reducible assumption | omega)]; omega) | (rw [if_neg (by first | with_reducible assumption | omega)]; omega))⟩
                    · refine g_bipush (by decide) (fun v839 kv839 => ?_)
                      refine g_goto ?_
                      exact g_iret ⟨_, rfl, rfl, (by rw [← zv749, ← zv750, ← zv832]; rw [ob_k5 (by first | with_reducible assumption | omega) (by first | with_reducible assumption | omega) (by first | with_reducible assumption | omega)]; first | omega | (rw [if_pos (by first | with_reducible assumption | omega)]; omega) | (rw [if_neg (by first | with_reducible assumption | omega), if_pos (by first | with_reducible assumption | omega)]; omega) | (rw [if_neg (by first | with_reducible assumption | omega), if_neg (by first | with_reducible assumption | omega), if_pos (by first | with_reducible assumption | omega)]; omega) | (rw [if_neg (by first | with_reducible assumption | omega), if_neg (by first | with_reducible assumption | omega), if_neg (by first | with_reducible assumption | omega)]; omega) | (rw [if_neg (by first | with_reducible assumption | omega), if_neg (by first | with_reducible assumption | omega)]; omega) | (rw [if_neg (by first | with_reducible assumption | omega)]; omega))⟩
                  · refine g_bipush (by decide) (fun v840 kv840 => ?_)
                    refine g_goto ?_
                    exact g_iret ⟨_, rfl, rfl, (by rw [← zv749, ← zv750]; rw [ob_k5 (by first | with_reducible assumption | omega) (by first | with_reducible assumption | omega) (by first | with_reducible assumption | omega)]; first | omega | (rw [if_pos (by first | with_reducible assumption | omega)]; omega) | (rw [if_neg (by first | with_reducible assumption | omega), if_pos (by first | with_reducible assumption | omega)]; omega) | (rw [if_neg (by first | with_reducible assumption | omega), if_neg (by first | with_reducible assumption | omega), if_pos (by first | with_reducible assumption | omega)]; omega) | (rw [if_neg (by first | with_reducible assumption | omega), if_neg (by first | with_reducible assumption | omega), if_neg (by first | with_reducible assumption | omega)]; omega) | (rw [if_neg (by first | with_reducible assumption | omega), if_neg (by first | with_reducible assumption | omega)]; omega) | (rw [if_neg (by first | with_reducible assumption | omega)]; omega))⟩
                · refine g_bipush (by decide) (fun v841 kv841 => ?_)
                  refine g_goto ?_
                  exact g_iret ⟨_, rfl, rfl, (by rw [← zv749, ← zv750]; rw [ob_k5 (by first | with_reducible assumption | omega) (by first | with_reducible assumption | omega) (by first | with_reducible assumption | omega)]; first | omega | (rw [if_pos (by first | with_reducible assumption | omega)]; omega) | (rw [if_neg (by first | with_reducible assumption | omega), if_pos (by first | with_reducible assumption | omega)]; omega) | (rw [if_neg (by first | with_reducible assumption | omega), if_neg (by first | with_reducible assumption | omega), if_pos (by first | with_reducible assumption | omega)]; omega) | (rw [if_neg (by first | with_reducible assumption | omega), if_neg (by first | with_reducible assumption | omega), if_neg (by first | with_reducible assumption | omega)]; omega) | (rw [if_neg (by first | with_reducible assumption | omega), if_neg (by first | with_reducible assumption | omega)]; omega) | (rw [if_neg (by first | with_reducible assumption | omega)]; omega))⟩
              · refine g_iload rfl ?_
                refine g_if_eq (fun c842 => ?_) (fun c842 => ?_)
                · refine g_aload_n rfl ?_
                  refine g_aload_n rfl ?_
                  refine g_iload rfl ?_
                  refine g_aload_n rfl ?_
                  refine g_gfr hI sx_3 rfl ?_
                  refine g_iload_n rfl ?_
                  refine g_iaload hI sx_9 rfl (by first | with_reducible assumption | omega) (fun v843 ev843 lv843 uv843 => ?_)
                  have zv843 : v843.toInt = (aZ H 9 a2.toInt.toNat).toInt := by rw [ev843]
                  refine g_iload_n rfl ?_
                  refine g_invvi hI hw0 rfl rfl rfl rfl (w_96 w hw v780 (by first | with_reducible assumption | omega) v843 a3 (by first | with_reducible assumption | omega) H hI hJ hp0 hp1) (fun v846 H844 r845 => ?_)
                  obtain ⟨rfl, bv846, p847⟩ := r845
                  rw [tnv780] at p847
                  refine g_if_eq (fun c848 => ?_) (fun c848 => ?_)
                  · refine g_iconst (by decide) (fun v849 kv849 => ?_)
                    refine g_nop ?_
                    exact g_iret ⟨_, rfl, rfl, (by rw [← zv749, ← zv750, ← zv843]; rw [ob_k6 (by first | with_reducible assumption | omega) (by first | with_reducible assumption | omega) (by first | with_reducible assumption | omega)]; first | omega | (rw [if_pos (by first | with_reducible assumption | omega)]; omega) | (rw [if_neg (by first | with_reducible assumption | omega), if_pos (by first | with_reducible assumption | omega)]; omega) | (rw [if_neg (by first | with_reducible assumption | omega), if_neg (by first | with_reducible assumption | omega), if_pos (by first | with_reducible assumption | omega)]; omega) | (rw [if_neg (by first | with_reducible assumption | omega), if_neg (by first | with_reducible assumption | omega), if_neg (by first | with_reducible assumption | omega)]; omega) | (rw [if_neg (by first | with_reducible assumption | omega), if_neg (by first | with_reducible assumption | omega)]; omega) | (rw [if_neg (by first | with_reducible assumption | omega)]; omega))⟩
                  · refine g_bipush (by decide) (fun v850 kv850 => ?_)
                    refine g_goto ?_
                    exact g_iret ⟨_, rfl, rfl, (by rw [← zv749, ← zv750, ← zv843]; rw [ob_k6 (by first | with_reducible assumption | omega) (by first | with_reducible assumption | omega) (by first | with_reducible assumption | omega)]; first | omega | (rw [if_pos (by first | with_reducible assumption | omega)]; omega) | (rw [if_neg (by first | with_reducible assumption | omega), if_pos (by first | with_reducible assumption | omega)]; omega) | (rw [if_neg (by first | with_reducible assumption | omega), if_neg (by first | with_reducible assumption | omega), if_pos (by first | with_reducible assumption | omega)]; omega) | (rw [if_neg (by first | with_reducible assumption | omega), if_neg (by first | with_reducible assumption | omega), if_neg (by first | with_reducible assumption | omega)]; omega) | (rw [if_neg (by first | with_reducible assumption | omega), if_neg (by first | with_reducible assumption | omega)]; omega) | (rw [if_neg (by first | with_reducible assumption | omega)]; omega))⟩
                · refine g_bipush (by decide) (fun v851 kv851 => ?_)
                  refine g_goto ?_
                  exact g_iret ⟨_, rfl, rfl, (by rw [← zv749, ← zv750]; rw [ob_k6 (by first | with_reducible assumption | omega) (by first | with_reducible assumption | omega) (by first | with_reducible assumption | omega)]; first | omega | (rw [if_pos (by first | with_reducible assumption | omega)]; omega) | (rw [if_neg (by first | with_reducible assumption | omega), if_pos (by first | with_reducible assumption | omega)]; omega) | (rw [if_neg (by first | with_reducible assumption | omega), if_neg (by first | with_reducible assumption | omega), if_pos (by first | with_reducible assumption | omega)]; omega) | (rw [if_neg (by first | with_reducible assumption | omega), if_neg (by first | with_reducible assumption | omega), if_neg (by first | with_reducible assumption | omega)]; omega) | (rw [if_neg (by first | with_reducible assumption | omega), if_neg (by first | with_reducible assumption | omega)]; omega) | (rw [if_neg (by first | with_reducible assumption | omega)]; omega))⟩
              · refine g_iload rfl ?_
                refine g_if_eq (fun c852 => ?_) (fun c852 => ?_)
                · refine g_aload_n rfl ?_
                  refine g_gfr hI hw0 rfl ?_
                  refine g_iload rfl ?_
                  refine g_iaload hI hw2 rfl (by first | with_reducible assumption | omega) (fun v853 ev853 lv853 uv853 => ?_)
                  have yv853 : v853.toInt = (s).ii v750.toInt.toNat := by rw [ev853]; exact (hp0 _ (by first | with_reducible assumption | omega)).2.1
                  refine g_if_lt (fun c854 => ?_) (fun c854 => ?_)
                  · refine g_aload_n rfl ?_
                    refine g_iload rfl ?_
                    refine g_invvi hI hw0 rfl rfl rfl rfl (w_97 w hw v750 H hI hJ hp0) (fun v857 H855 r856 => ?_)
                    obtain ⟨rfl, bv857, p858⟩ := r856
                    have qnv857 : qwi s v750.toInt = qwi s ((v750.toInt.toNat : Nat) : Int) := by rw [show ((v750.toInt.toNat : Nat) : Int) = v750.toInt by omega]
                    refine g_if_eq (fun c859 => ?_) (fun c859 => ?_)
                    · refine g_iconst (by decide) (fun v860 kv860 => ?_)
                      refine g_nop ?_
                      exact g_iret ⟨_, rfl, rfl, (by rw [← zv749, ← zv750]; rw [ob_k7 (by first | with_reducible assumption | omega) (by first | with_reducible assumption | omega) (by first | with_reducible assumption | omega)]; first | omega | (rw [if_pos (by first | with_reducible assumption | omega)]; omega) | (rw [if_neg (by first | with_reducible assumption | omega), if_pos (by first | with_reducible assumption | omega)]; omega) | (rw [if_neg (by first | with_reducible assumption | omega), if_neg (by first | with_reducible assumption | omega), if_pos (by first | with_reducible assumption | omega)]; omega) | (rw [if_neg (by first | with_reducible assumption | omega), if_neg (by first | with_reducible assumption | omega), if_neg (by first | with_reducible assumption | omega)]; omega) | (rw [if_neg (by first | with_reducible assumption | omega), if_neg (by first | with_reducible assumption | omega)]; omega) | (rw [if_neg (by first | with_reducible assumption | omega)]; omega))⟩
                    · refine g_bipush (by decide) (fun v861 kv861 => ?_)
                      refine g_goto ?_
                      exact g_iret ⟨_, rfl, rfl, (by rw [← zv749, ← zv750]; rw [ob_k7 (by first | with_reducible assumption | omega) (by first | with_reducible assumption | omega) (by first | with_reducible assumption | omega)]; first | omega | (rw [if_pos (by first | with_reducible assumption | omega)]; omega) | (rw [if_neg (by first | with_reducible assumption | omega), if_pos (by first | with_reducible assumption | omega)]; omega) | (rw [if_neg (by first | with_reducible assumption | omega), if_neg (by first | with_reducible assumption | omega), if_pos (by first | with_reducible assumption | omega)]; omega) | (rw [if_neg (by first | with_reducible assumption | omega), if_neg (by first | with_reducible assumption | omega), if_neg (by first | with_reducible assumption | omega)]; omega) | (rw [if_neg (by first | with_reducible assumption | omega), if_neg (by first | with_reducible assumption | omega)]; omega) | (rw [if_neg (by first | with_reducible assumption | omega)]; omega))⟩
                  · refine g_bipush (by decide) (fun v862 kv862 => ?_)
                    refine g_goto ?_
                    exact g_iret ⟨_, rfl, rfl, (by rw [← zv749, ← zv750]; rw [ob_k7 (by first | with_reducible assumption | omega) (by first | with_reducible assumption | omega) (by first | with_reducible assumption | omega)]; first | omega | (rw [if_pos (by first | with_reducible assumption | omega)]; omega) | (rw [if_neg (by first | with_reducible assumption | omega), if_pos (by first | with_reducible assumption | omega)]; omega) | (rw [if_neg (by first | with_reducible assumption | omega), if_neg (by first | with_reducible assumption | omega), if_pos (by first | with_reducible assumption | omega)]; omega) | (rw [if_neg (by first | with_reducible assumption | omega), if_neg (by first | with_reducible assumption | omega), if_neg (by first | with_reducible assumption | omega)]; omega) | (rw [if_neg (by first | with_reducible assumption | omega), if_neg (by first | with_reducible assumption | omega)]; omega) | (rw [if_neg (by first | with_reducible assumption | omega)]; omega))⟩
                · refine g_bipush (by decide) (fun v863 kv863 => ?_)
                  refine g_goto ?_
                  exact g_iret ⟨_, rfl, rfl, (by rw [← zv749, ← zv750]; rw [ob_k7 (by first | with_reducible assumption | omega) (by first | with_reducible assumption | omega) (by first | with_reducible assumption | omega)]; first | omega | (rw [if_pos (by first | with_reducible assumption | omega)]; omega) | (rw [if_neg (by first | with_reducible assumption | omega), if_pos (by first | with_reducible assumption | omega)]; omega) | (rw [if_neg (by first | with_reducible assumption | omega), if_neg (by first | with_reducible assumption | omega), if_pos (by first | with_reducible assumption | omega)]; omega) | (rw [if_neg (by first | with_reducible assumption | omega), if_neg (by first | with_reducible assumption | omega), if_neg (by first | with_reducible assumption | omega)]; omega) | (rw [if_neg (by first | with_reducible assumption | omega), if_neg (by first | with_reducible assumption | omega)]; omega) | (rw [if_neg (by first | with_reducible assumption | omega)]; omega))⟩
              · refine g_aload_n rfl ?_
                refine g_gfr hI hw0 rfl ?_
                refine g_iload rfl ?_
                refine g_iaload hI hw2 rfl (by first | with_reducible assumption | omega) (fun v864 ev864 lv864 uv864 => ?_)
                have yv864 : v864.toInt = (s).ii v750.toInt.toNat := by rw [ev864]; exact (hp0 _ (by first | with_reducible assumption | omega)).2.1
                refine g_if_ge (fun c865 => ?_) (fun c865 => ?_)
                · refine g_bipush (by decide) (fun v866 kv866 => ?_)
                  refine g_goto ?_
                  exact g_iret ⟨_, rfl, rfl, (by rw [← zv749, ← zv750]; rw [ob_k8 (by first | with_reducible assumption | omega) (by first | with_reducible assumption | omega) (by first | with_reducible assumption | omega)]; first | omega | (rw [if_pos (by first | with_reducible assumption | omega)]; omega) | (rw [if_neg (by first | with_reducible assumption | omega), if_pos (by first | with_reducible assumption | omega)]; omega) | (rw [if_neg (by first | with_reducible assumption | omega), if_neg (by first | with_reducible assumption | omega), if_pos (by first | with_reducible assumption | omega)]; omega) | (rw [if_neg (by first | with_reducible assumption | omega), if_neg (by first | with_reducible assumption | omega), if_neg (by first | with_reducible assumption | omega)]; omega) | (rw [if_neg (by first | with_reducible assumption | omega), if_neg (by first | with_reducible assumption | omega)]; omega) | (rw [if_neg (by first | with_reducible assumption | omega)]; omega))⟩
                · refine g_iload rfl ?_
                  refine g_if_ne (fun c867 => ?_) (fun c867 => ?_)
                  · refine g_iconst (by decide) (fun v868 kv868 => ?_)
                    refine g_nop ?_
                    exact g_iret ⟨_, rfl, rfl, (by rw [← zv749, ← zv750]; rw [ob_k8 (by first | with_reducible assumption | omega) (by first | with_reducible assumption | omega) (by first | with_reducible assumption | omega)]; first | omega | (rw [if_pos (by first | with_reducible assumption | omega)]; omega) | (rw [if_neg (by first | with_reducible assumption | omega), if_pos (by first | with_reducible assumption | omega)]; omega) | (rw [if_neg (by first | with_reducible assumption | omega), if_neg (by first | with_reducible assumption | omega), if_pos (by first | with_reducible assumption | omega)]; omega) | (rw [if_neg (by first | with_reducible assumption | omega), if_neg (by first | with_reducible assumption | omega), if_neg (by first | with_reducible assumption | omega)]; omega) | (rw [if_neg (by first | with_reducible assumption | omega), if_neg (by first | with_reducible assumption | omega)]; omega) | (rw [if_neg (by first | with_reducible assumption | omega)]; omega))⟩
                  · refine g_nop ?_
                    refine g_bipush (by decide) (fun v869 kv869 => ?_)
                    refine g_goto ?_
                    exact g_iret ⟨_, rfl, rfl, (by rw [← zv749, ← zv750]; rw [ob_k8 (by first | with_reducible assumption | omega) (by first | with_reducible assumption | omega) (by first | with_reducible assumption | omega)]; first | omega | (rw [if_pos (by first | with_reducible assumption | omega)]; omega) | (rw [if_neg (by first | with_reducible assumption | omega), if_pos (by first | with_reducible assumption | omega)]; omega) | (rw [if_neg (by first | with_reducible assumption | omega), if_neg (by first | with_reducible assumption | omega), if_pos (by first | with_reducible assumption | omega)]; omega) | (rw [if_neg (by first | with_reducible assumption | omega), if_neg (by first | with_reducible assumption | omega), if_neg (by first | with_reducible assumption | omega)]; omega) | (rw [if_neg (by first | with_reducible assumption | omega), if_neg (by first | with_reducible assumption | omega)]; omega) | (rw [if_neg (by first | with_reducible assumption | omega)]; omega))⟩
              · refine g_iconst (by decide) (fun v870 kv870 => ?_)
                exact g_iret ⟨_, rfl, rfl, (by rw [← zv749, ← zv750]; rw [ob_k9 (by first | with_reducible assumption | omega) (by first | with_reducible assumption | omega) (by first | with_reducible assumption | omega)]; omega)⟩
              · refine g_aload_n rfl ?_
                refine g_iload rfl ?_
                refine g_bipush (by decide) (fun v871 kv871 => ?_)
                refine g_invvi hI hw0 rfl rfl rfl rfl (w_85 w hw v750 (by first | with_reducible assumption | omega) v871 H hI hJ hp0 (by first | with_reducible assumption | omega)) (fun v874 H872 r873 => ?_)
                obtain ⟨rfl, bv874, p875⟩ := r873
                rw [kv871, mkb_8] at p875
                refine g_if_eq (fun c876 => ?_) (fun c876 => ?_)
                · refine g_bipush (by decide) (fun v877 kv877 => ?_)
                  refine g_nop ?_
                  exact g_iret ⟨_, rfl, rfl, (by rw [← zv749, ← zv750]; rw [ob_k10 (by first | with_reducible assumption | omega) (by first | with_reducible assumption | omega) (by first | with_reducible assumption | omega)]; first | omega | (rw [if_pos (by first | with_reducible assumption | omega)]; omega) | (rw [if_neg (by first | with_reducible assumption | omega), if_pos (by first | with_reducible assumption | omega)]; omega) | (rw [if_neg (by first | with_reducible assumption | omega), if_neg (by first | with_reducible assumption | omega), if_pos (by first | with_reducible assumption | omega)]; omega) | (rw [if_neg (by first | with_reducible assumption | omega), if_neg (by first | with_reducible assumption | omega), if_neg (by first | with_reducible assumption | omega)]; omega) | (rw [if_neg (by first | with_reducible assumption | omega), if_neg (by first | with_reducible assumption | omega)]; omega) | (rw [if_neg (by first | with_reducible assumption | omega)]; omega))⟩
                · refine g_iconst (by decide) (fun v878 kv878 => ?_)
                  refine g_goto ?_
                  exact g_iret ⟨_, rfl, rfl, (by rw [← zv749, ← zv750]; rw [ob_k10 (by first | with_reducible assumption | omega) (by first | with_reducible assumption | omega) (by first | with_reducible assumption | omega)]; first | omega | (rw [if_pos (by first | with_reducible assumption | omega)]; omega) | (rw [if_neg (by first | with_reducible assumption | omega), if_pos (by first | with_reducible assumption | omega)]; omega) | (rw [if_neg (by first | with_reducible assumption | omega), if_neg (by first | with_reducible assumption | omega), if_pos (by first | with_reducible assumption | omega)]; omega) | (rw [if_neg (by first | with_reducible assumption | omega), if_neg (by first | with_reducible assumption | omega), if_neg (by first | with_reducible assumption | omega)]; omega) | (rw [if_neg (by first | with_reducible assumption | omega), if_neg (by first | with_reducible assumption | omega)]; omega) | (rw [if_neg (by first | with_reducible assumption | omega)]; omega))⟩
            · refine g_nop ?_
              refine g_iconst (by decide) (fun v879 kv879 => ?_)
              exact g_iret ⟨_, rfl, rfl, (by rw [← zv749, ← zv750]; rw [ob_3 (by first | with_reducible assumption | omega) (by first | with_reducible assumption | omega) (by first | with_reducible assumption | omega)]; omega)⟩
        · refine g_nop ?_
          refine g_iconst (by decide) (fun v880 kv880 => ?_)
          exact g_iret ⟨_, rfl, rfl, (by rw [← zv749, ← zv750]; rw [ob_2 (by first | with_reducible assumption | omega) (by first | with_reducible assumption | omega)]; omega)⟩
    · refine g_aload_n rfl ?_
      refine g_gfr hI sx_3 rfl ?_
      refine g_iload_n rfl ?_
      refine g_iaload hI sx_9 rfl (by first | with_reducible assumption | omega) (fun v881 ev881 lv881 uv881 => ?_)
      have zv881 : v881.toInt = (aZ H 9 a2.toInt.toNat).toInt := by rw [ev881]
      have jv881 : 0 ≤ (aZ H (3 + 6) a2.toInt.toNat).toInt := JX_use hJ (Or.inl rfl) (by first | with_reducible assumption | omega) (show (aZ H (3 + 4) a2.toInt.toNat).toInt = 1 from by show (aZ H 7 a2.toInt.toNat).toInt = 1; omega)
      have jjv881 : 0 ≤ (aZ H 9 a2.toInt.toNat).toInt := jv881
      refine g_goto ?_
      refine g_istore (l' := [(0, .ref w), (1, .ref 3), (2, .int a2), (3, .int a3), (4, .int v749), (5, .int v750), (6, .int v881)]) rfl rfl ?_
      refine g_aload_n rfl ?_
      refine g_iload rfl ?_
      refine g_invvi hI hw0 rfl rfl rfl rfl (w_88 w hw v750 (by first | with_reducible assumption | omega) H hI hJ hp0) (fun v884 H882 r883 => ?_)
      obtain ⟨rfl, bv884, p885⟩ := r883
      refine g_if_eq (fun c886 => ?_) (fun c886 => ?_)
      · refine g_iconst (by decide) (fun v887 kv887 => ?_)
        exact g_iret ⟨_, rfl, rfl, (by rw [← zv749, ← zv750, ← zv881]; rw [ob_2p (by first | with_reducible assumption | omega) (by first | with_reducible assumption | omega)]; omega)⟩
      · refine g_aload_n rfl ?_
        refine g_iload rfl ?_
        refine g_invvi hI hw0 rfl rfl rfl rfl (w_88 w hw v881 (by first | with_reducible assumption | omega) H hI hJ hp0) (fun v890 H888 r889 => ?_)
        obtain ⟨rfl, bv890, p891⟩ := r889
        refine g_if_ne (fun c892 => ?_) (fun c892 => ?_)
        · refine g_aload_n rfl ?_
          refine g_iload rfl ?_
          refine g_iconst (by decide) (fun v893 kv893 => ?_)
          refine g_invvi hI hw0 rfl rfl rfl rfl (w_85 w hw v750 (by first | with_reducible assumption | omega) v893 H hI hJ hp0 (by first | with_reducible assumption | omega)) (fun v896 H894 r895 => ?_)
          obtain ⟨rfl, bv896, p897⟩ := r895
          rw [kv893, mkb_4] at p897
          refine g_if_ne (fun c898 => ?_) (fun c898 => ?_)
          · refine g_iconst (by decide) (fun v899 kv899 => ?_)
            exact g_iret ⟨_, rfl, rfl, (by rw [← zv749, ← zv750, ← zv881]; rw [ob_3p (by first | with_reducible assumption | omega) (by first | with_reducible assumption | omega) (by first | with_reducible assumption | omega)]; omega)⟩
          · refine g_aload_n rfl ?_
            refine g_iload rfl ?_
            refine g_iconst (by decide) (fun v900 kv900 => ?_)
            refine g_invvi hI hw0 rfl rfl rfl rfl (w_85 w hw v881 (by first | with_reducible assumption | omega) v900 H hI hJ hp0 (by first | with_reducible assumption | omega)) (fun v903 H901 r902 => ?_)
            obtain ⟨rfl, bv903, p904⟩ := r902
            rw [kv900, mkb_4] at p904
            refine g_if_eq (fun c905 => ?_) (fun c905 => ?_)
            · refine g_aload_n rfl ?_
              refine g_iload rfl ?_
              refine g_invvi hI hw0 rfl rfl rfl rfl (w_89 w hw v750 (by first | with_reducible assumption | omega) H hI hJ hp0) (fun v908 H906 r907 => ?_)
              obtain ⟨rfl, bv908, p909⟩ := r907
              have tnv908 : v908.toInt.toNat = tp s v750.toInt.toNat := by omega
              refine g_istore (l' := [(0, .ref w), (1, .ref 3), (2, .int a2), (3, .int a3), (4, .int v749), (5, .int v750), (6, .int v881), (7, .int v908)]) rfl rfl ?_
              refine g_aload_n rfl ?_
              refine g_iload rfl ?_
              refine g_iconst (by decide) (fun v910 kv910 => ?_)
              refine g_invvi hI hw0 rfl rfl rfl rfl (w_85 w hw v908 (by first | with_reducible assumption | omega) v910 H hI hJ hp0 (by first | with_reducible assumption | omega)) (fun v913 H911 r912 => ?_)
              obtain ⟨rfl, bv913, p914⟩ := r912
              rw [kv910, mkb_2] at p914
              rw [tnv908] at p914
              refine g_istore (l' := [(0, .ref w), (1, .ref 3), (2, .int a2), (3, .int a3), (4, .int v749), (5, .int v750), (6, .int v881), (7, .int v908), (8, .int v913)]) rfl rfl ?_
              refine g_iload rfl ?_
              refine g_sw (by decide) (fun c915 => ?_) ⟨fun c915 => ?_, fun c915 => ?_, fun c915 => ?_, fun c915 => ?_, fun c915 => ?_, fun c915 => ?_, fun c915 => ?_, fun c915 => ?_, fun c915 => ?_, fun c915 => ?_, trivial⟩
              · exfalso; omega
              · refine g_aload_n rfl ?_
                refine g_aload_n rfl ?_
                refine g_iload rfl ?_
                refine g_iload rfl ?_
                refine g_invvi hI hw0 rfl rfl rfl rfl (w_95 w hw v750 (by first | with_reducible assumption | omega) v881 (by first | with_reducible assumption | omega) H hI hJ hp0 hp2) (fun v918 H916 r917 => ?_)
                obtain ⟨rfl, p919⟩ := r917
                refine g_istore (l' := [(0, .ref w), (1, .ref 3), (2, .int a2), (3, .int a3), (4, .int v749), (5, .int v750), (6, .int v881), (7, .int v908), (8, .int v913), (9, .int v918)]) rfl rfl ?_
                refine g_iload rfl ?_
                refine g_if_ne (fun c920 => ?_) (fun c920 => ?_)
                · refine g_iload rfl ?_
                  refine g_nop ?_
                  exact g_iret ⟨_, rfl, rfl, (by rw [← zv749, ← zv750, ← zv881]; rw [ob_k1 (by first | with_reducible assumption | omega) (by first | with_reducible assumption | omega) (by first | with_reducible assumption | omega)]; first | omega | (rw [if_pos (by first | with_reducible assumption | omega)]; omega) | (rw [if_neg (by first | with_reducible assumption | omega), if_pos (by first | with_reducible assumption | omega)]; omega) | (rw [if_neg (by first | with_reducible assumption | omega), if_neg (by first | with_reducible assumption | omega), if_pos (by first | with_reducible assumption | omega)]; omega) | (rw [if_neg (by first | with_reducible assumption | omega), if_neg (by first | with_reducible assumption | omega), if_neg (by first | with_reducible assumption | omega)]; omega) | (rw [if_neg (by first | with_reducible assumption | omega), if_neg (by first | with_reducible assumption | omega)]; omega) | (rw [if_neg (by first | with_reducible assumption | omega)]; omega))⟩
                · refine g_aload_n rfl ?_
                  refine g_iload rfl ?_
                  refine g_invvi hI hw0 rfl rfl rfl rfl (w_97 w hw v750 H hI hJ hp0) (fun v923 H921 r922 => ?_)
                  obtain ⟨rfl, bv923, p924⟩ := r922
                  have qnv923 : qwi s v750.toInt = qwi s ((v750.toInt.toNat : Nat) : Int) := by rw [show ((v750.toInt.toNat : Nat) : Int) = v750.toInt by omega]
                  refine g_if_eq (fun c925 => ?_) (fun c925 => ?_)
                  · refine g_iload rfl ?_
                    refine g_nop ?_
                    exact g_iret ⟨_, rfl, rfl, (by rw [← zv749, ← zv750, ← zv881]; rw [ob_k1 (by first | with_reducible assumption | omega) (by first | with_reducible assumption | omega) (by first | with_reducible assumption | omega)]; first | omega | (rw [if_pos (by first | with_reducible assumption | omega)]; omega) | (rw [if_neg (by first | with_reducible assumption | omega), if_pos (by first | with_reducible assumption | omega)]; omega) | (rw [if_neg (by first | with_reducible assumption | omega), if_neg (by first | with_reducible assumption | omega), if_pos (by first | with_reducible assumption | omega)]; omega) | (rw [if_neg (by first | with_reducible assumption | omega), if_neg (by first | with_reducible assumption | omega), if_neg (by first | with_reducible assumption | omega)]; omega) | (rw [if_neg (by first | with_reducible assumption | omega), if_neg (by first | with_reducible assumption | omega)]; omega) | (rw [if_neg (by first | with_reducible assumption | omega)]; omega))⟩
                  · refine g_bipush (by decide) (fun v926 kv926 => ?_)
                    refine g_goto ?_
                    exact g_iret ⟨_, rfl, rfl, (by rw [← zv749, ← zv750, ← zv881]; rw [ob_k1 (by first | with_reducible assumption | omega) (by first | with_reducible assumption | omega) (by first | with_reducible assumption | omega)]; first | omega | (rw [if_pos (by first | with_reducible assumption | omega)]; omega) | (rw [if_neg (by first | with_reducible assumption | omega), if_pos (by first | with_reducible assumption | omega)]; omega) | (rw [if_neg (by first | with_reducible assumption | omega), if_neg (by first | with_reducible assumption | omega), if_pos (by first | with_reducible assumption | omega)]; omega) | (rw [if_neg (by first | with_reducible assumption | omega), if_neg (by first | with_reducible assumption | omega), if_neg (by first | with_reducible assumption | omega)]; omega) | (rw [if_neg (by first | with_reducible assumption | omega), if_neg (by first | with_reducible assumption | omega)]; omega) | (rw [if_neg (by first | with_reducible assumption | omega)]; omega))⟩
              · exfalso; omega
              · exfalso; omega
              · exfalso; omega
              · exfalso; omega
              · exfalso; omega
              · exfalso; omega
              · exfalso; omega
              · exfalso; omega
              · exfalso; omega
            · refine g_nop ?_
              refine g_iconst (by decide) (fun v927 kv927 => ?_)
              exact g_iret ⟨_, rfl, rfl, (by rw [← zv749, ← zv750, ← zv881]; rw [ob_3p (by first | with_reducible assumption | omega) (by first | with_reducible assumption | omega) (by first | with_reducible assumption | omega)]; omega)⟩
        · refine g_nop ?_
          refine g_iconst (by decide) (fun v928 kv928 => ?_)
          exact g_iret ⟨_, rfl, rfl, (by rw [← zv749, ← zv750, ← zv881]; rw [ob_2p (by first | with_reducible assumption | omega) (by first | with_reducible assumption | omega)]; omega)⟩
  · refine g_aload_n rfl ?_
    refine g_iload rfl ?_
    refine g_invvi hI hw0 rfl rfl rfl rfl (w_88 w hw v750 (by first | with_reducible assumption | omega) H hI hJ hp0) (fun v931 H929 r930 => ?_)
    obtain ⟨rfl, bv931, p932⟩ := r930
    refine g_if_eq (fun c933 => ?_) (fun c933 => ?_)
    · refine g_iconst (by decide) (fun v934 kv934 => ?_)
      refine g_nop ?_
      exact g_iret ⟨_, rfl, rfl, (by rw [← zv749, ← zv750]; rw [ob_0 (by first | with_reducible assumption | omega)]; first | omega | (rw [if_pos (by first | with_reducible assumption | omega)]; omega) | (rw [if_neg (by first | with_reducible assumption | omega), if_pos (by first | with_reducible assumption | omega)]; omega) | (rw [if_neg (by first | with_reducible assumption | omega), if_neg (by first | with_reducible assumption | omega), if_pos (by first | with_reducible assumption | omega)]; omega) | (rw [if_neg (by first | with_reducible assumption | omega), if_neg (by first | with_reducible assumption | omega), if_neg (by first | with_reducible assumption | omega)]; omega) | (rw [if_neg (by first | with_reducible assumption | omega), if_neg (by first | with_reducible assumption | omega)]; omega) | (rw [if_neg (by first | with_reducible assumption | omega)]; omega))⟩
    · refine g_iconst (by decide) (fun v935 kv935 => ?_)
      refine g_goto ?_
      exact g_iret ⟨_, rfl, rfl, (by rw [← zv749, ← zv750]; rw [ob_0 (by first | with_reducible assumption | omega)]; first | omega | (rw [if_pos (by first | with_reducible assumption | omega)]; omega) | (rw [if_neg (by first | with_reducible assumption | omega), if_pos (by first | with_reducible assumption | omega)]; omega) | (rw [if_neg (by first | with_reducible assumption | omega), if_neg (by first | with_reducible assumption | omega), if_pos (by first | with_reducible assumption | omega)]; omega) | (rw [if_neg (by first | with_reducible assumption | omega), if_neg (by first | with_reducible assumption | omega), if_neg (by first | with_reducible assumption | omega)]; omega) | (rw [if_neg (by first | with_reducible assumption | omega), if_neg (by first | with_reducible assumption | omega)]; omega) | (rw [if_neg (by first | with_reducible assumption | omega)]; omega))⟩
