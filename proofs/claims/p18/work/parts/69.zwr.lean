/-! WHO IS TO BLAME -/
/-- how many of a list are refused as it is run -/
def rfL (H : mzH) (hr : Nat → Int) (l : List Nat) : Int := cnt (fun q => ¬ vrH H hr (l.take (q + 1)) = 0) l.length
theorem rfL_s {H : mzH} {hr : Nat → Int} {l : List Nat} {j : Nat} : rfL H hr (l ++ [j]) = rfL H hr l + (if vdH H hr (rnH H hr l) j = 0 then 0 else 1) := by
  have e1 : (l ++ [j]).length = l.length + 1 := List.length_append
  have e2 : (l ++ [j]).take (l.length + 1) = l ++ [j] := List.take_of_length_le (by rw [e1]; exact Nat.le_refl _)
  have e3 : cnt (fun q => ¬ vrH H hr ((l ++ [j]).take (q + 1)) = 0) l.length = cnt (fun q => ¬ vrH H hr (l.take (q + 1)) = 0) l.length := cnt_cg (fun x hx => by rw [List.take_append_of_le_length (by omega)])
  unfold rfL
  rw [e1]
  show cnt (fun q => ¬ vrH H hr ((l ++ [j]).take (q + 1)) = 0) l.length + (if ¬ vrH H hr ((l ++ [j]).take (l.length + 1)) = 0 then 1 else 0) = _
  rw [e3, e2, vr_s]
  if z : vdH H hr (rnH H hr l) j = 0 then rw [if_pos z, if_neg (fun y => y z)]
  else rw [if_neg z, if_pos z]
theorem rfL_b {H : mzH} {hr : Nat → Int} {l : List Nat} : 0 ≤ rfL H hr l ∧ rfL H hr l ≤ (l.length : Int) := cnt_b l.length
theorem olF_len {n : Nat} {t : Nat → Nat} : (olF n t).length = n := by
  unfold olF
  rw [List.length_map, List.length_range]
theorem olF_dr {n a : Nat} {t : Nat → Nat} (h : a ≤ n) : (olF (n + 1) t).drop a = (olF n t).drop a ++ [t n] := by
  rw [olF_s, List.drop_append_of_le_length (by rw [olF_len]; exact h)]
theorem olF_d0 {n a : Nat} {t : Nat → Nat} (h : n ≤ a) : (olF n t).drop a = [] := List.drop_of_length_le (by rw [olF_len]; exact h)
/-- behind a list: those of the order from spot a on, below q -/
def bhL (l : List Nat) (t : Nat → Nat) (a q : Nat) : List Nat := l ++ (olF q t).drop a
theorem bh_0 {l : List Nat} {t : Nat → Nat} {a q : Nat} (h : q ≤ a) : bhL l t a q = l := by
  unfold bhL
  rw [olF_d0 h, List.append_nil]
theorem bh_s {l : List Nat} {t : Nat → Nat} {a q : Nat} (h : a ≤ q) : bhL l t a (q + 1) = bhL l t a q ++ [t q] := by
  unfold bhL
  rw [olF_dr h, List.append_assoc]
theorem rf_mono {H : mzH} {hr : Nat → Int} {l : List Nat} {t : Nat → Nat} {a q : Nat} (h : a ≤ q) : ∀ m, q ≤ m → rfL H hr (bhL l t a q) ≤ rfL H hr (bhL l t a m)
  | 0, hm => by
    rw [show q = 0 by omega]
    exact Int.le_refl _
  | m + 1, hm => by
    if c : q = m + 1 then
      rw [c]
      exact Int.le_refl _
    else
      have ih := rf_mono (H := H) (hr := hr) (l := l) (t := t) h m (by omega)
      rw [bh_s (q := m) (by omega), rfL_s]
      split <;> omega
/-- what a search that may stop early finds of a number -/
def rbR (r enough T : Int) : Prop := (r ≤ enough ∧ r = T) ∨ (enough < r ∧ r ≤ T)
theorem rb_1 {H : mzH} {hr : Nat → Int} {l : List Nat} {t : Nat → Nat} {a q N : Nat} {r e : Int} (h : r = rfL H hr (bhL l t a q)) (h1 : a ≤ q) (h2 : q ≤ N) (h3 : q = N ∨ e < r) : rbR r e (rfL H hr (bhL l t a N)) := by
  have m := rf_mono (H := H) (hr := hr) (l := l) (t := t) h1 N h2
  unfold rbR
  rcases h3 with h3 | h3
  · subst h3
    omega
  · omega
theorem rb_st {H : mzH} {hr : Nat → Int} {l : List Nat} {t : Nat → Nat} {a q q2 : Nat} {r r2 u v : Int} (h : r = rfL H hr (bhL l t a q)) (h1 : a ≤ q) (e : q2 = q + 1) (hv : v = vdH H hr (rnH H hr (bhL l t a q)) (t q)) (hu : (v = 0 ∧ u = 0) ∨ (¬ v = 0 ∧ u = 1)) (hr2 : r2 = r + u) : r2 = rfL H hr (bhL l t a q2) := by
  subst e
  rw [bh_s h1, rfL_s, ← hv, ← h]
  rcases hu with ⟨z1, z2⟩ | ⟨z1, z2⟩
  · rw [if_pos z1]
    omega
  · rw [if_neg z1]
    omega
/-- how many are refused without the one at spot s -/
def tO (H : mzH) (s : Nat) : Int := rfL H (hoX H) (bhL (olF s (odX H)) (odX H) (s + 1) (fZ H 25 2).toInt.toNat)
/-- of those at the spots below p: whose leaving out leaves least, the first of them -/
def blB (H : mzH) (p : Nat) (o l : Int) : Prop := (p = 0 ∧ l = 60) ∨ (∃ s, s < p ∧ o = (odX H s : Int) ∧ l = tO H s ∧ ∀ q, q < p → l < tO H q ∨ (l = tO H q ∧ o ≤ (odX H q : Int)))
theorem bh_wf {H : mzH} {l : List Nat} {a q : Nat} (hg : gdY H) (hl : ∀ j, j ∈ l → j < (fZ H 25 2).toInt.toNat) (hq : q ≤ (fZ H 25 2).toInt.toNat) : wfS 8 (rnH H (hoX H) (bhL l (odX H) a q)) := by
  obtain ⟨h0, h1, h2⟩ := hg
  refine rn_wf h2 (fun j hj => (h2 j hj).2.2.2.2.1) _ (fun j hj => ?_)
  rcases List.mem_append.mp hj with z | z
  · exact hl j z
  · obtain ⟨x, hx, rfl⟩ := olF_mem.mp (List.mem_of_mem_drop z)
    exact h1 x (by omega)
theorem bh_b {H : mzH} {l : List Nat} {a q : Nat} {r : Int} (e : r = rfL H (hoX H) (bhL l (odX H) a q)) (hl : l.length ≤ a) (hq : a ≤ q) : 0 ≤ r ∧ r ≤ q := by
  have b := rfL_b (H := H) (hr := hoX H) (l := bhL l (odX H) a q)
  have z : (bhL l (odX H) a q).length = l.length + (q - a) := by
    unfold bhL
    rw [List.length_append, List.length_drop, olF_len]
  rw [z] at b
  omega
theorem ol_lt {H : mzH} {p : Nat} (hg : gdY H) (hp : p ≤ (fZ H 25 2).toInt.toNat) : ∀ j, j ∈ olF p (odX H) → j < (fZ H 25 2).toInt.toNat := fun j hj => by
  obtain ⟨x, hx, rfl⟩ := olF_mem.mp hj
  exact hg.2.1 x (by omega)
theorem rf_ol {H : mzH} {p p2 : Nat} {r r2 u : Int} (h : r = rfL H (hoX H) (olF p (odX H))) (e : p2 = p + 1) (hu : (u = 0 ∧ vdH H (hoX H) (rnH H (hoX H) (olF p (odX H))) (odX H p) = 0) ∨ (u = 1 ∧ ¬ vdH H (hoX H) (rnH H (hoX H) (olF p (odX H))) (odX H p) = 0)) (hr2 : r2 = r + u) : r2 = rfL H (hoX H) (olF p2 (odX H)) := by
  subst e
  rw [olF_s, rfL_s, ← h]
  rcases hu with ⟨z1, z2⟩ | ⟨z1, z2⟩
  · rw [if_pos z2]
    omega
  · rw [if_neg z2]
    omega
/-- what is kept of the one to blame is right -/
def blK (H B : mzH) : Prop := (fZ B 54 5).toInt = 1 → blB H (fZ H 25 2).toInt.toNat (fZ B 54 7).toInt (fZ B 54 8).toInt
