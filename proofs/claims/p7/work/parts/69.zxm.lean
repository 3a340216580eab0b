/-! WHAT DECIDES A VERDICT -/
/-- the verdict on the message at spot s, were message j not told -/
def dcV (H : mzH) (s j : Nat) : Int := vrH H (hoX H) ((olF (s + 1) (odX H)).filter (fun x => decide (¬ (x : Int) = (j : Int))))
theorem sp_hit {H : mzH} {k v : Int} (cv : cvX H) (hk : k < (fZ H 25 2).toInt) (h : ((0 ≤ v ∧ v < (fZ H 25 2).toInt) ∧ odX H v.toNat = k.toNat) ∨ (v = -1 ∧ ∀ q : Nat, q < (fZ H 25 2).toInt.toNat → ¬ odX H q = k.toNat)) (h0 : 0 ≤ k) : v.toNat < (fZ H 25 2).toInt.toNat ∧ odX H v.toNat = k.toNat := by
  rcases h with ⟨h1, h2⟩ | ⟨_, h2⟩
  · exact ⟨by omega, h2⟩
  · exfalso
    obtain ⟨c1, c2, c3⟩ := cv
    have hk2 : k.toNat < (fZ H 3 9).toInt.toNat := by rw [← c1]; omega
    obtain ⟨q, hq, e⟩ := ordF_sur (hr := fun i => (aZ H 6 i).toInt) hk2
    refine h2 q (by rw [c1]; exact hq) ?_
    unfold odX
    rw [c3 q hq, Int.toNat_natCast, e]
theorem sp_ge {H : mzH} {k v : Int} (cv : cvX H) (hk : k < (fZ H 25 2).toInt) (h : ((0 ≤ v ∧ v < (fZ H 25 2).toInt) ∧ odX H v.toNat = k.toNat) ∨ (v = -1 ∧ ∀ q : Nat, q < (fZ H 25 2).toInt.toNat → ¬ odX H q = k.toNat)) (h0 : 0 ≤ k) : 0 ≤ v := by
  rcases h with ⟨h1, _⟩ | ⟨_, h2⟩
  · exact h1.1
  · exfalso
    obtain ⟨c1, c2, c3⟩ := cv
    have hk2 : k.toNat < (fZ H 3 9).toInt.toNat := by rw [← c1]; omega
    obtain ⟨q, hq, e⟩ := ordF_sur (hr := fun i => (aZ H 6 i).toInt) hk2
    refine h2 q (by rw [c1]; exact hq) ?_
    unfold odX
    rw [c3 q hq, Int.toNat_natCast, e]
set_option maxRecDepth 4000 in
set_option maxHeartbeats 4000000 in
/-- X2.spotOf -/
theorem w_26  (a1 : Int32) (ha1 : 0 ≤ a1.toInt ∧ a1.toInt ≤ 59) (H : mzH) (hI : gI SX H) (hJ : JX H) : gCall 26 [.ref 25, .int a1] H (gRi (fun v H' => H = H' ∧ (-1 ≤ v.toInt ∧ v.toInt ≤ 59) ∧ (((0 ≤ v.toInt ∧ v.toInt < (fZ H 25 2).toInt) ∧ odX H v.toInt.toNat = a1.toInt.toNat) ∨ (v.toInt = -1 ∧ ∀ q : Nat, q < (fZ H 25 2).toInt.toNat → ¬ odX H q = a1.toInt.toNat)))) := by
  refine gG_call [(0, .ref 25), (1, .int a1)] ⟨rfl, rfl, trivial⟩ ?_
  show gG 3 zB_26 (mzBlk zB_26 0) [(0, .ref 25), (1, .int a1)] [] H 0 0 _
  refine g_iconst (by decide) (fun v117 kv117 => ?_)
  refine g_istore_n (l' := [(0, .ref 25), (1, .int a1), (2, .int v117)]) rfl rfl ?_
  refine g_nop ?_
  have L119 : ∀ (N : Nat) (v118 : Int32), (0 ≤ v118.toInt ∧ v118.toInt ≤ 60) → (∀ q : Nat, q < v118.toInt.toNat → ¬ odX H q = a1.toInt.toNat) → v118.toInt ≤ (fZ H 25 2).toInt → (60 - v118.toInt).toNat < N → gG 3 zB_26 (mzBlk zB_26 1) [(0, .ref 25), (1, .int a1), (2, .int v118)] [] H 0 0 (gRi (fun v H' => H = H' ∧ (-1 ≤ v.toInt ∧ v.toInt ≤ 59) ∧ (((0 ≤ v.toInt ∧ v.toInt < (fZ H 25 2).toInt) ∧ odX H v.toInt.toNat = a1.toInt.toNat) ∨ (v.toInt = -1 ∧ ∀ q : Nat, q < (fZ H 25 2).toInt.toNat → ¬ odX H q = a1.toInt.toNat)))) := by
    intro N
    induction N with
    | zero => intro v118 bv118 q1 q3 hmL119; exact absurd hmL119 (Nat.not_lt_zero _)
    | succ N ihL119 =>
      intro v118 bv118 q1 q3 hmL119
      refine g_iload_n rfl ?_
      refine g_aload_n rfl ?_
      refine g_gfi hI sx_25 rfl (fun v120 ev120 lv120 uv120 => ?_)
      have zv120 : v120.toInt = (fZ H 25 2).toInt := by rw [ev120]
      refine g_if2_ge (fun c121 => ?_) (fun c121 => ?_)
      · refine g_iconst (by decide) (fun v122 kv122 => ?_)
        exact g_iret ⟨_, rfl, rfl, (by omega), (Or.inr ⟨by omega, fun q hq => q1 q (by omega)⟩)⟩
      · refine g_aload_n rfl ?_
        refine g_gfr hI sx_25 rfl ?_
        refine g_iload_n rfl ?_
        refine g_iaload hI sx_27 rfl (by omega) (fun v123 ev123 lv123 uv123 => ?_)
        have zkv123 : odX H v118.toInt.toNat = v123.toInt.toNat := by rw [ev123]; rfl
        refine g_iload_n rfl ?_
        refine g_if2_ne (fun c124 => ?_) (fun c124 => ?_)
        · refine g_iinc (l' := (fun v125 => [(0, .ref 25), (1, .int a1), (2, .int v125)])) rfl rfl (by decide) (by omega) (fun _ => rfl) (fun v125 ev125 => ?_)
          refine g_goto ?_
          exact ihL119 v125 (by omega) (fun q hq => by if e : q = v118.toInt.toNat then (rw [e, zkv123]; omega) else exact q1 q (by omega)) (by omega) (by omega)
        · refine g_iload_n rfl ?_
          exact g_iret ⟨_, rfl, rfl, (by omega), (Or.inl ⟨by omega, by rw [zkv123]; omega⟩)⟩
  exact L119 _ v117 (by omega) (fun q hq => by omega) (by have := fZ_of hI sx_25 (f := 2) rfl; omega) (Nat.lt_succ_self _)
