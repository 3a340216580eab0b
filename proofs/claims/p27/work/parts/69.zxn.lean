/-! ONE MESSAGE LEFT OUT -/
theorem ap_uni {k : Nat} : ∀ {l1 l2 r1 r2 : List Nat}, l1 ++ k :: r1 = l2 ++ k :: r2 → k ∉ l1 → k ∉ l2 → l1 = l2
  | [], [], _, _, _, _, _ => rfl
  | [], b :: l2, r1, r2, h, _, n2 => by
    rw [List.nil_append, List.cons_append] at h
    exact absurd (List.mem_cons.mpr (Or.inl (List.cons.inj h).1)) n2
  | a :: l1, [], r1, r2, h, n1, _ => by
    rw [List.nil_append, List.cons_append] at h
    exact absurd (List.mem_cons.mpr (Or.inl (List.cons.inj h).1.symm)) n1
  | a :: l1, b :: l2, r1, r2, h, n1, n2 => by
    rw [List.cons_append, List.cons_append] at h
    obtain ⟨e, h⟩ := List.cons.inj h
    rw [e, ap_uni h (fun z => n1 (List.mem_cons_of_mem _ z)) (fun z => n2 (List.mem_cons_of_mem _ z))]
theorem olF_at {t : Nat → Nat} {x : Nat} : ∀ {n : Nat}, x < n → ∃ r, olF n t = olF x t ++ t x :: r
  | 0, h => absurd h (Nat.not_lt_zero _)
  | n + 1, h => by
    if e : x = n then exact ⟨[], by rw [e, olF_s]⟩
    else
      obtain ⟨r, hr⟩ := olF_at (t := t) (n := n) (show x < n by omega)
      exact ⟨r ++ [t n], by rw [olF_s, hr, List.append_assoc, List.cons_append]⟩
theorem od_uni {H : mzH} {q p : Nat} (h : cvX H) (hq : q < (fZ H 25 2).toInt.toNat) (hp : p < (fZ H 25 2).toInt.toNat) (e : odX H q = odX H p) : q = p := by
  have e9 := h.1
  rw [e9] at hq hp
  if c : q < p then exact absurd e (od_inj h hp c)
  else
    if d : p < q then exact absurd e.symm (od_inj h hq d)
    else omega
theorem dc_out {H : mzH} {s m : Nat} (h : ∀ q, q < s + 1 → odX H q ≠ m) : dcV H s m = vdX H s := by
  unfold dcV
  have e : (olF (s + 1) (odX H)).filter (fun x : Nat => decide (¬ (x : Int) = (m : Int))) = olF (s + 1) (odX H) := by
    refine List.filter_eq_self.mpr (fun j hj => ?_)
    obtain ⟨q, hq, rfl⟩ := olF_mem.mp hj
    rw [decide_eq_true_eq]
    have := h q hq
    omega
  rw [e, olF_s, vr_s, ← fX_rn]
  rfl
theorem dc_iff {H : mzH} {s k : Nat} {a : Int} (cv : cvX H) (hs : s < (fZ H 25 2).toInt.toNat) (ea : a = (odX H s : Int)) (hk : (k : Int) < (fZ H 3 9).toInt) : (∃ q : Nat, q < s ∧ odX H q = k ∧ ¬ (dcV H s (odX H q) = 0 ↔ vdX H s = 0)) ↔ (¬ (k : Int) = a ∧ ¬ (dcV H s k = 0 ↔ vdX H s = 0)) := by
  have e9 := cv.1
  constructor
  · rintro ⟨q, h1, h2, h3⟩
    have n := od_inj cv (by rw [← e9]; exact hs) h1
    rw [h2] at h3
    exact ⟨by omega, h3⟩
  · rintro ⟨h1, h2⟩
    obtain ⟨q, q1, q2⟩ := sp_ex (k := (k : Int)) cv ⟨by omega, hk⟩
    rw [Int.toNat_natCast] at q2
    if c : q < s then exact ⟨q, c, q2, by rw [q2]; exact h2⟩
    else
      exfalso
      have z := dc_out (H := H) (s := s) (m := k) (fun p hp e => by
        have y := od_uni cv (by omega) q1 (e.trans q2.symm)
        have w : q = s := by omega
        rw [w] at q2
        omega)
      rw [z] at h2
      exact h2 Iff.rfl
theorem dc_pk {d : Int64} {P : Nat → Prop} {g : Nat → Int} {N : Nat} {i : Int} (hN : N ≤ 64) (hd : ∀ k : Nat, k < 64 → (lbi d k = 1 ↔ P k)) (hP : ∀ k, N ≤ k → ¬ P k) (e : ∀ k, k < N → (P k ↔ g k = 1)) : pkF (lbi d) 64 0 i = pkF g N 0 i := by
  rw [show (64 : Nat) = N + (64 - N) by omega, pk_up (fun k h1 h2 z => hP k (by omega) ((hd k (by omega)).mp z))]
  exact pk_cg (fun k _ h2 => (hd k (by omega)).trans (e k (by omega)))
theorem if_1 {P : Prop} [Decidable P] : P ↔ (if P then (1 : Int) else 0) = 1 := by
  split
  · rename_i h; exact ⟨fun _ => rfl, fun _ => h⟩
  · rename_i h; exact ⟨fun z => absurd z h, fun z => absurd z (by decide)⟩
