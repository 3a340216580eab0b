/-! LISTS THAT LEAVE OUT -/
/-- the verdict on the last of a list -/
def vrH (H : mzH) (hr : Nat → Int) (l : List Nat) : Int := match l.getLast? with
  | none => 0
  | some j => vdH H hr (rnH H hr l.dropLast) j
theorem fl_y {p : Nat} {t : Nat → Nat} {P : Nat → Bool} (h : P (t p) = true) : (olF (p + 1) t).filter P = (olF p t).filter P ++ [t p] := by
  rw [olF_s, List.filter_append, List.filter_cons, if_pos h]
  rfl
theorem fl_n {p : Nat} {t : Nat → Nat} {P : Nat → Bool} (h : ¬ P (t p) = true) : (olF (p + 1) t).filter P = (olF p t).filter P := by
  rw [olF_s, List.filter_append, List.filter_cons, if_neg h]
  exact List.append_nil _
theorem rn_fl {H : mzH} {P : Nat → Bool} (h : gdY H) {p : Nat} (hp : p ≤ (fZ H 25 2).toInt.toNat) : wfS 8 (rnH H (hoX H) ((olF p (odX H)).filter P)) := by
  obtain ⟨h0, h1, h2⟩ := h
  exact rn_wf h2 (fun j hj => (h2 j hj).2.2.2.2.1) _ (fun j hj => by
    obtain ⟨x, hx, rfl⟩ := olF_mem.mp (List.mem_filter.mp hj).1
    exact h1 x (by omega))
theorem gx_l3 {H A B : mzH} {s : pS} {w j : Nat} {k h : Int32} {hr : Nat → Int} (fr : kpX H A) (P : wdX B w (lkS s (wyX A) (fZ A 3 10).toInt (fZ A 3 11).toInt (aZ A 7 k.toInt.toNat).toInt (aZ A 8 k.toInt.toNat).toInt.toNat (aZ A 9 k.toInt.toNat).toInt (aZ A 10 k.toInt.toNat).toInt h.toInt)) (yk : k.toInt.toNat = j) (yh : h.toInt = hr j) : wdX B w (stH H hr s j) := by
  rw [wyX_kp fr, (fr 3 (by decide)).1, (fr 3 (by decide)).1, (fr 7 (by decide)).2, (fr 8 (by decide)).2, (fr 9 (by decide)).2, (fr 10 (by decide)).2, yh, yk] at P
  exact P
theorem wd_rn {B H : mzH} {w : Nat} {hr : Nat → Int} {l l2 : List Nat} {j : Nat} (h : wdX B w (stH H hr (rnH H hr l) j)) (e : l2 = l ++ [j]) : wdX B w (rnH H hr l2) := by
  rw [e, rnH_s]
  exact h
