/-! THE HOURS OF A WINDOW -/
/-- the first, the last, how many of the hours below n at which w is 0 -/
def wnF (w : Nat → Int) : Nat → Int × Int × Int
  | 0 => (-2, -2, 0)
  | n + 1 => if w n = 0 then ((if (wnF w n).2.2 = 0 then (n : Int) else (wnF w n).1), (n : Int), (wnF w n).2.2 + 1) else wnF w n
theorem wn_b {w : Nat → Int} : ∀ n : Nat, 0 ≤ (wnF w n).2.2 ∧ (wnF w n).2.2 ≤ n
  | 0 => ⟨Int.le_refl _, Int.le_refl _⟩
  | n + 1 => by
    have ih := wn_b (w := w) n
    if c : w n = 0 then
      have e : (wnF w (n + 1)).2.2 = (wnF w n).2.2 + 1 := by
        show (if w n = 0 then ((if (wnF w n).2.2 = 0 then (n : Int) else (wnF w n).1), (n : Int), (wnF w n).2.2 + 1) else wnF w n).2.2 = _
        rw [if_pos c]
      omega
    else
      have e : wnF w (n + 1) = wnF w n := by
        show (if w n = 0 then ((if (wnF w n).2.2 = 0 then (n : Int) else (wnF w n).1), (n : Int), (wnF w n).2.2 + 1) else wnF w n) = _
        rw [if_neg c]
      rw [e]
      omega
theorem wn_y {w : Nat → Int} {n n2 : Nat} {a b c a2 b2 c2 : Int} (q : a = (wnF w n).1 ∧ b = (wnF w n).2.1 ∧ c = (wnF w n).2.2) (z : w n = 0) (e : n2 = n + 1) (ha : (c = 0 ∧ a2 = n) ∨ (¬ c = 0 ∧ a2 = a)) (hb : b2 = n) (hc : c2 = c + 1) : a2 = (wnF w n2).1 ∧ b2 = (wnF w n2).2.1 ∧ c2 = (wnF w n2).2.2 := by
  subst e
  obtain ⟨q1, q2, q3⟩ := q
  have e : wnF w (n + 1) = ((if (wnF w n).2.2 = 0 then (n : Int) else (wnF w n).1), (n : Int), (wnF w n).2.2 + 1) := by
    show (if w n = 0 then ((if (wnF w n).2.2 = 0 then (n : Int) else (wnF w n).1), (n : Int), (wnF w n).2.2 + 1) else wnF w n) = _
    rw [if_pos z]
  rw [e]
  refine ⟨?_, hb, by rw [hc, q3]⟩
  show a2 = if (wnF w n).2.2 = 0 then (n : Int) else (wnF w n).1
  rw [← q3, ← q1]
  rcases ha with ⟨h1, h2⟩ | ⟨h1, h2⟩
  · rw [if_pos h1, h2]
  · rw [if_neg h1, h2]
theorem wn_n {w : Nat → Int} {n n2 : Nat} {a b c a2 b2 c2 : Int} (q : a = (wnF w n).1 ∧ b = (wnF w n).2.1 ∧ c = (wnF w n).2.2) (z : ¬ w n = 0) (e : n2 = n + 1) (ha : a2 = a) (hb : b2 = b) (hc : c2 = c) : a2 = (wnF w n2).1 ∧ b2 = (wnF w n2).2.1 ∧ c2 = (wnF w n2).2.2 := by
  subst e ha hb hc
  have e : wnF w (n + 1) = wnF w n := by
    show (if w n = 0 then ((if (wnF w n).2.2 = 0 then (n : Int) else (wnF w n).1), (n : Int), (wnF w n).2.2 + 1) else wnF w n) = _
    rw [if_neg z]
  rw [e]
  exact q
theorem wn_0 {w : Nat → Int} {n : Nat} {a b c : Int} (e : n = 0) (ha : a = -2) (hb : b = -2) (hc : c = 0) : a = (wnF w n).1 ∧ b = (wnF w n).2.1 ∧ c = (wnF w n).2.2 := by
  subst e
  exact ⟨ha, hb, hc⟩
/-- ahead of message k, were it told for hour h -/
def ahX (H : mzH) (k : Nat) (h : Int) (q : Nat) : Prop := odX H q = k ∨ hoX H (odX H q) < h ∨ (hoX H (odX H q) = h ∧ odX H q < k)
def ahP (H : mzH) (k : Nat) (h : Int) : Nat → Bool := fun j => decide (¬ (j : Int) = (k : Int) ∧ (hoX H j < h ∨ (hoX H j = h ∧ j < k)))
theorem ah_mono {H : mzH} {k q : Nat} {h h2 : Int} (z : ahX H k h q) (e : h ≤ h2) : ahX H k h2 q := by
  unfold ahX at *
  omega
/-- the verdict on message k in a world of those behind spot p, at an hour -/
def wnO (H : mzH) (k : Nat) (p : Nat) (h : Int) : Int := obj (rnH H (hoX H) ((olF p (odX H)).filter (fun j : Nat => decide (¬ (j : Int) = (k : Int))))) (wyX H) (fZ H 3 10).toInt (fZ H 3 11).toInt (roX H k 1) (roX H k 2).toNat (roX H k 3) h
/-- the verdict on message k, were it told for hour h -/
def wnV (H : mzH) (k : Nat) (h : Int) : Int := obj (rnH H (hoX H) ((olF (fZ H 25 2).toInt.toNat (odX H)).filter (ahP H k h))) (wyX H) (fZ H 3 10).toInt (fZ H 3 11).toInt (roX H k 1) (roX H k 2).toNat (roX H k 3) h
theorem obj_h {s : pS} {wy : Int → Int → Int} {U C ac se h h2 : Int} {n : Nat} (h5 : ¬ (ac = 5 ∨ ac = 6)) : obj s wy U C ac n se h = obj s wy U C ac n se h2 := by
  have h5' : ¬ ac = 5 := fun z => h5 (Or.inl z)
  have h6' : ¬ ac = 6 := fun z => h5 (Or.inr z)
  unfold obj
  simp only [if_neg h5', if_neg h6']
theorem wn_h {H : mzH} {k p : Nat} {h h2 : Int} (h5 : ¬ (roX H k 1 = 5 ∨ roX H k 1 = 6)) : wnO H k p h = wnO H k p h2 := obj_h h5
theorem srt_X {H : mzH} (cv : cvX H) : srt (hoX H) (fZ H 25 2).toInt.toNat (odX H) := by
  obtain ⟨c1, c2, c3⟩ := cv
  have a := (ord2_ok (I := fun _ => 1) (hr := fun i => (aZ H 6 i).toInt) (fZ H 3 9).toInt.toNat).1
  rw [ord2_all (I := fun _ => 1) (hr := fun i => (aZ H 6 i).toInt) (fZ H 3 9).toInt.toNat (fun _ _ => rfl)] at a
  have e : hoX H = fun i => (aZ H 6 i).toInt := by
    funext i
    show (aZ H 26 i).toInt = _
    rw [c2]
  have eo : ∀ q, q < (fZ H 25 2).toInt.toNat → odX H q = ordF (fun i => (aZ H 6 i).toInt) (fZ H 3 9).toInt.toNat q := fun q hq => by
    unfold odX
    rw [c3 q (by rw [← c1]; exact hq), Int.toNat_natCast]
  rw [e]
  intro i j hi hj
  rw [eo i (by omega), eo j hj]
  exact a i j hi (by show j < (fZ H 3 9).toInt.toNat; rw [← c1]; exact hj)
theorem ah_fil {H : mzH} {k p : Nat} {h : Int} (cv : cvX H) (h1 : ∀ q, q < p → ahX H k h q) (h2 : ¬ p < (fZ H 25 2).toInt.toNat ∨ ¬ ahX H k h p) : ∀ m, p ≤ m → m ≤ (fZ H 25 2).toInt.toNat → (olF m (odX H)).filter (ahP H k h) = (olF p (odX H)).filter (fun j : Nat => decide (¬ (j : Int) = (k : Int)))
  | 0, hm, _ => by
    rw [show p = 0 by omega]
    rfl
  | m + 1, hm, hn => by
    if c : p = m + 1 then
      rw [c]
      refine List.filter_congr (fun j hj => ?_)
      obtain ⟨q, hq, rfl⟩ := olF_mem.mp hj
      have z := h1 q (by omega)
      unfold ahX at z
      show decide _ = decide _
      exact decide_eq_decide.mpr ⟨fun y => y.1, fun y => ⟨y, by omega⟩⟩
    else
      have ih := ah_fil cv h1 h2 m (by omega) (by omega)
      rw [← ih]
      refine fl_n ?_
      show ¬ decide _ = true
      rw [decide_eq_true_eq]
      have s := srt_X cv
      have n : ¬ ahX H k h p := h2.resolve_left (fun y => y (by omega))
      unfold ahX at n
      if d : p = m then
        rw [← d]
        omega
      else
        have z := s p m (by omega) (by omega)
        unfold kLt at z
        omega
theorem wn_w {H : mzH} {k p : Nat} {h : Int} (cv : cvX H) (h1 : ∀ q, q < p → ahX H k h q) (h0 : p ≤ (fZ H 25 2).toInt.toNat) (h2 : ¬ p < (fZ H 25 2).toInt.toNat ∨ ¬ ahX H k h p) : wnV H k h = wnO H k p h := by
  unfold wnV wnO
  rw [ah_fil cv h1 h2 _ h0 (Nat.le_refl _)]
theorem ah_of {H A : mzH} {p k h v : Int} (fr : kpX H A) (hg : gdY H) (hk : 0 ≤ k) (q : (v = 1 ∧ ((odX A p.toNat : Int) = k ∨ (aZ A 6 (odX A p.toNat)).toInt < h ∨ ((aZ A 6 (odX A p.toNat)).toInt = h ∧ (odX A p.toNat : Int) < k))) ∨ (v = 0 ∧ ¬ ((odX A p.toNat : Int) = k ∨ (aZ A 6 (odX A p.toNat)).toInt < h ∨ ((aZ A 6 (odX A p.toNat)).toInt = h ∧ (odX A p.toNat : Int) < k)))) : (v = 1 ∧ ahX H k.toNat h p.toNat) ∨ (v = 0 ∧ ¬ ahX H k.toNat h p.toNat) := by
  have eo : odX A = odX H := by
    funext q
    unfold odX
    rw [(fr 27 (by decide)).2]
  have e6 : ∀ i, (aZ A 6 i).toInt = hoX H i := fun i => by
    rw [(fr 6 (by decide)).2]
    show _ = (aZ H 26 i).toInt
    rw [hg.1.2.2]
  rw [eo, e6] at q
  unfold ahX
  omega
theorem wn_o {H A : mzH} {k h : Int32} {p : Nat} {v : Int} (fr : kpX H A) (hk : 0 ≤ k.toInt) (P : v = obj (rnH H (hoX H) ((olF p (odX H)).filter (fun j : Nat => decide (¬ (j : Int) = k.toInt)))) (wyX A) (fZ A 3 10).toInt (fZ A 3 11).toInt (aZ A 7 k.toInt.toNat).toInt (aZ A 8 k.toInt.toNat).toInt.toNat (aZ A 9 k.toInt.toNat).toInt h.toInt) : v = wnO H k.toInt.toNat p h.toInt := by
  rw [wyX_kp fr, (fr 3 (by decide)).1, (fr 3 (by decide)).1, (fr 7 (by decide)).2, (fr 8 (by decide)).2, (fr 9 (by decide)).2] at P
  unfold wnO
  rw [show ((k.toInt.toNat : Nat) : Int) = k.toInt by omega]
  exact P
/-- all but its hour: what a taken one had is kept where its hour doesn't count -/
def tkO (H : mzH) (k p : Nat) (t : Int) : Prop := ¬ (roX H k 1 = 5 ∨ roX H k 1 = 6) → ((t = 1 ∧ wnO H k p 0 = 0) ∨ (t = 0 ∧ ¬ wnO H k p 0 = 0))
theorem tko_1 {H : mzH} {k p : Nat} {v t h : Int} (e : v = wnO H k p h) (z : (t = 1 ∧ v = 0) ∨ (t = 0 ∧ ¬ v = 0)) : tkO H k p t := fun n => by
  rw [wn_h n (h2 := h), ← e]
  exact z
theorem tko_n {H : mzH} {k p p2 : Nat} {t t2 : Int} (e : tkO H k p t) (ep : p2 = p) (et : t2 = t) : tkO H k p2 t2 := by
  subst ep et
  exact e
theorem tko_v {H : mzH} {k p p2 : Nat} {t h : Int} (e : tkO H k p t) (ep : p2 = p) (n : ¬ (roX H k 1 = 5 ∨ roX H k 1 = 6)) : (t = 1 ∧ wnO H k p2 h = 0) ∨ (t = 0 ∧ ¬ wnO H k p2 h = 0) := by
  subst ep
  rw [wn_h n (h2 := 0)]
  exact e n
