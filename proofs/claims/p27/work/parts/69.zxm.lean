/-! WHAT DECIDES A VERDICT -/
/-- the verdict on the message at spot s, were message j not told -/
def dcV (H : mzH) (s j : Nat) : Int := vrH H (hoX H) ((olF (s + 1) (odX H)).filter (fun x => decide (¬ (x : Int) = (j : Int))))
theorem od_kp {H A : mzH} (fr : kpX H A) : odX A = odX H := (row_kw (kpW_X fr)).1
theorem vr_kp {H A : mzH} (fr : kpX H A) {l : List Nat} : vrH A (hoX A) l = vrH H (hoX H) l := by
  have e : hoX A = hoX H := (row_kw (kpW_X fr)).2.1
  unfold vrH
  rw [e]
  cases l.getLast? with
  | none => rfl
  | some j => show vdH A (hoX H) (rnH A (hoX H) l.dropLast) j = _; rw [rnH_kp fr, (stH_kp fr).2]
theorem sp_hit {H : mzH} {k v : Int} (cv : cvX H) (hk : k < (fZ H 25 2).toInt) (h : ((0 ≤ v ∧ v < (fZ H 25 2).toInt) ∧ odX H v.toNat = k.toNat) ∨ (v = -1 ∧ ∀ q : Nat, q < (fZ H 25 2).toInt.toNat → ¬ odX H q = k.toNat)) (h0 : 0 ≤ k) : v.toNat < (fZ H 25 2).toInt.toNat ∧ odX H v.toNat = k.toNat := by
  rcases h with ⟨h1, h2⟩ | ⟨_, h2⟩
  · exact ⟨by omega, h2⟩
  · exfalso
    obtain ⟨c1, c2, c3⟩ := cv
    have hk2 : k.toNat < (fZ H 3 9).toInt.toNat := by rw [← c1]; omega
    obtain ⟨q, hq, e⟩ := ordF_sur (hr := fun i => (aZ H 6 i).toInt) hk2
    refine h2 q (by rw [c1]; exact hq) ?_
    unfold odX
    rw [c3 q hq, Int.toNat_natCast, e]
theorem sp_ge {H : mzH} {k v : Int} (cv : cvX H) (hk : k < (fZ H 25 2).toInt) (h : ((0 ≤ v ∧ v < (fZ H 25 2).toInt) ∧ odX H v.toNat = k.toNat) ∨ (v = -1 ∧ ∀ q : Nat, q < (fZ H 25 2).toInt.toNat → ¬ odX H q = k.toNat)) (h0 : 0 ≤ k) : 0 ≤ v := by
  rcases h with ⟨h1, _⟩ | ⟨_, h2⟩
  · exact h1.1
  · exfalso
    obtain ⟨c1, c2, c3⟩ := cv
    have hk2 : k.toNat < (fZ H 3 9).toInt.toNat := by rw [← c1]; omega
    obtain ⟨q, hq, e⟩ := ordF_sur (hr := fun i => (aZ H 6 i).toInt) hk2
    refine h2 q (by rw [c1]; exact hq) ?_
    unfold odX
    rw [c3 q hq, Int.toNat_natCast, e]
theorem dv_of {H A B : mzH} {s j : Nat} {a v : Int} {sp : Int} (fr : kpX H A) (hg : gdY H) (hs : s < (fZ H 25 2).toInt.toNat) (e : sp.toNat = s ∧ 0 ≤ sp) (h : ∃ m : Nat, ((m : Int) = sp + 1 ∨ ((m : Int) = (fZ A 25 2).toInt ∧ (fZ A 25 2).toInt ≤ sp + 1)) ∧ (m : Int) ≤ (fZ A 25 2).toInt ∧ wdX B 44 (rnH A (hoX A) ((olF m (odX A)).filter (fun j => decide (¬ (j : Int) = a)))) ∧ v = vrH A (hoX A) ((olF m (odX A)).filter (fun j => decide (¬ (j : Int) = a)))) (ea : a = (j : Int)) : v = dcV H s j := by
  obtain ⟨m, m1, m2, _, m4⟩ := h
  have e25 : (fZ A 25 2).toInt = (fZ H 25 2).toInt := by rw [(fr 25 (by decide)).1]
  have em : m = s + 1 := by omega
  rw [m4, vr_kp fr, od_kp fr, em, ea]
  rfl
theorem wh_sp {H : mzH} {s k : Nat} (h : whE H) (sp : s < (fZ H 25 2).toInt.toNat ∧ odX H s = k) : (aZ H 42 k).toInt = vdX H s := by
  rw [← sp.2]
  exact h s sp.1
theorem dc_0 {v : Int64} {P : Nat → Prop} {t : Nat → Nat} {p : Nat} (o : v = Int64.ofNat 0) (e : p = 0) : ∀ k : Nat, k < 64 → (lbi v k = 1 ↔ ∃ q : Nat, q < p ∧ t q = k ∧ P q) := fun k _ => by
  rw [lbi_0 o]
  exact ⟨fun z => absurd z (by decide), fun ⟨q, z, _⟩ => by omega⟩
theorem dc_y {a s one w : Int64} {b : Int32} {P : Nat → Prop} {t : Nat → Nat} {p p2 : Nat} (h : ∀ k : Nat, k < 64 → (lbi a k = 1 ↔ ∃ q : Nat, q < p ∧ t q = k ∧ P q)) (o1 : s = one <<< (b.toInt64 &&& 63)) (oo : one = Int64.ofNat 1) (ow : w = a ||| s) (hb : 0 ≤ b.toInt ∧ b.toInt ≤ 63) (eb : b.toInt = (t p : Int)) (e : p2 = p + 1) (d : P p) : ∀ k : Nat, k < 64 → (lbi w k = 1 ↔ ∃ q : Nat, q < p2 ∧ t q = k ∧ P q) := fun k hk => by
  rw [is_add h o1 oo ow hb k hk]
  subst e
  constructor
  · rintro (⟨q, h1, h2, h3⟩ | z)
    · exact ⟨q, by omega, h2, h3⟩
    · exact ⟨p, by omega, by omega, d⟩
  · rintro ⟨q, h1, h2, h3⟩
    if c : q = p then
      right
      rw [← h2, c]
      omega
    else
      left
      exact ⟨q, by omega, h2, h3⟩
theorem dc_n {a : Int64} {P : Nat → Prop} {t : Nat → Nat} {p p2 : Nat} (h : ∀ k : Nat, k < 64 → (lbi a k = 1 ↔ ∃ q : Nat, q < p ∧ t q = k ∧ P q)) (e : p2 = p + 1) (d : ¬ P p) : ∀ k : Nat, k < 64 → (lbi a k = 1 ↔ ∃ q : Nat, q < p2 ∧ t q = k ∧ P q) := fun k hk => by
  rw [h k hk]
  subst e
  constructor
  · rintro ⟨q, h1, h2, h3⟩
    exact ⟨q, by omega, h2, h3⟩
  · rintro ⟨q, h1, h2, h3⟩
    if c : q = p then
      rw [c] at h3
      exact absurd h3 d
    else exact ⟨q, by omega, h2, h3⟩
theorem sp_ex {H : mzH} {k : Int} (cv : cvX H) (h0 : 0 ≤ k ∧ k < (fZ H 3 9).toInt) : ∃ s : Nat, s < (fZ H 25 2).toInt.toNat ∧ odX H s = k.toNat := by
  obtain ⟨c1, c2, c3⟩ := cv
  obtain ⟨q, hq, e⟩ := ordF_sur (hr := fun i => (aZ H 6 i).toInt) (n := (fZ H 3 9).toInt.toNat) (k := k.toNat) (by omega)
  refine ⟨q, by rw [c1]; exact hq, ?_⟩
  unfold odX
  rw [c3 q hq, Int.toNat_natCast, e]
theorem ca_4 {H : mzH} {k y v : Int} {Q : Nat → Prop} (cv : cvW H) (hg : gdY H) (h0 : 0 ≤ k ∧ k < (fZ H 3 9).toInt) (e : y = (aZ H 42 k.toNat).toInt) (hy : ¬ y = 0) (hv : v = -3) : ∃ s : Nat, s < (fZ H 25 2).toInt.toNat ∧ odX H s = k.toNat ∧ ((¬ vdX H s = 0 ∧ v = -3) ∨ Q s) := by
  obtain ⟨s, h1, h2⟩ := sp_ex cv.1 h0
  refine ⟨s, h1, h2, Or.inl ⟨?_, hv⟩⟩
  rw [← wh_sp (cv.2 hg) ⟨h1, h2⟩, ← e]
  exact hy
set_option maxRecDepth 4000 in
set_option maxHeartbeats 4000000 in
/-- X2.spotOf -/
theorem w_26  (a1 : Int32) (ha1 : 0 ≤ a1.toInt ∧ a1.toInt ≤ 59) (H : mzH) (hI : gI SX H) (hJ : JX H) : gCall 26 [.ref 25, .int a1] H (gRi (fun v H' => H = H' ∧ (-1 ≤ v.toInt ∧ v.toInt ≤ 59) ∧ (((0 ≤ v.toInt ∧ v.toInt < (fZ H 25 2).toInt) ∧ odX H v.toInt.toNat = a1.toInt.toNat) ∨ (v.toInt = -1 ∧ ∀ q : Nat, q < (fZ H 25 2).toInt.toNat → ¬ odX H q = a1.toInt.toNat)))) := by
  refine gG_call [(0, .ref 25), (1, .int a1)] ⟨rfl, rfl, trivial⟩ ?_
  show gG 3 zB_26 (mzBlk zB_26 0) [(0, .ref 25), (1, .int a1)] [] H 0 0 _
  refine g_iconst (by decide) (fun v117 kv117 => ?_)
  refine g_istore_n (l' := [(0, .ref 25), (1, .int a1), (2, .int v117)]) rfl rfl ?_
  refine g_nop ?_
  have L119 : ∀ (N : Nat) (v118 : Int32), (0 ≤ v118.toInt ∧ v118.toInt ≤ 60) → (∀ q : Nat, q < v118.toInt.toNat → ¬ odX H q = a1.toInt.toNat) → v118.toInt ≤ (fZ H 25 2).toInt → (60 - v118.toInt).toNat < N → gG 3 zB_26 (mzBlk zB_26 1) [(0, .ref 25), (1, .int a1), (2, .int v118)] [] H 0 0 (gRi (fun v H' => H = H' ∧ (-1 ≤ v.toInt ∧ v.toInt ≤ 59) ∧ (((0 ≤ v.toInt ∧ v.toInt < (fZ H 25 2).toInt) ∧ odX H v.toInt.toNat = a1.toInt.toNat) ∨ (v.toInt = -1 ∧ ∀ q : Nat, q < (fZ H 25 2).toInt.toNat → ¬ odX H q = a1.toInt.toNat)))) := by
    intro N
    induction N with
    | zero => intro v118 bv118 q1 q3 hmL119; exact absurd hmL119 (Nat.not_lt_zero _)
    | succ N ihL119 =>
      intro v118 bv118 q1 q3 hmL119
      refine g_iload_n rfl ?_
      refine g_aload_n rfl ?_
      refine g_gfi hI sx_25 rfl (fun v120 ev120 lv120 uv120 => ?_)
      have zv120 : v120.toInt = (fZ H 25 2).toInt := by rw [ev120]
      refine g_if2_ge (fun c121 => ?_) (fun c121 => ?_)
      · refine g_iconst (by decide) (fun v122 kv122 => ?_)
        exact g_iret ⟨_, rfl, rfl, (by omega), (Or.inr ⟨by omega, fun q hq => q1 q (by omega)⟩)⟩
      · refine g_aload_n rfl ?_
        refine g_gfr hI sx_25 rfl ?_
        refine g_iload_n rfl ?_
        refine g_iaload hI sx_27 rfl (by omega) (fun v123 ev123 lv123 uv123 => ?_)
        have zkv123 : odX H v118.toInt.toNat = v123.toInt.toNat := by rw [ev123]; rfl
        refine g_iload_n rfl ?_
        refine g_if2_ne (fun c124 => ?_) (fun c124 => ?_)
        · refine g_iinc (l' := (fun v125 => [(0, .ref 25), (1, .int a1), (2, .int v125)])) rfl rfl (by decide) (by omega) (fun _ => rfl) (fun v125 ev125 => ?_)
          refine g_goto ?_
          exact ihL119 v125 (by omega) (fun q hq => by if e : q = v118.toInt.toNat then (rw [e, zkv123]; omega) else exact q1 q (by omega)) (by omega) (by omega)
        · refine g_iload_n rfl ?_
          exact g_iret ⟨_, rfl, rfl, (by omega), (Or.inl ⟨by omega, by rw [zkv123]; omega⟩)⟩
  exact L119 _ v117 (by omega) (fun q hq => by omega) (by have := fZ_of hI sx_25 (f := 2) rfl; omega) (Nat.lt_succ_self _)
set_option maxRecDepth 4000 in
set_option maxHeartbeats 4000000 in
/-- X3.deciding -/
theorem w_31  (a1 : Int32) (ha1 : 0 ≤ a1.toInt ∧ a1.toInt ≤ 59) (H : mzH) (hI : gI SX H) (hJ : JX H) (hp0 : gdY H) (hp1 : cvW H) (hp2 : a1.toInt < (fZ H 25 2).toInt) : gCall 31 [.ref 43, .int a1] H (gRl (fun v H' => gI SX H' ∧ JX H' ∧ fZ H' 1 1 = fZ H 1 1 ∧ kpX H H' ∧ (∃ s : Nat, s < (fZ H 25 2).toInt.toNat ∧ odX H s = a1.toInt.toNat ∧ (∀ k : Nat, k < 64 → (lbi v k = 1 ↔ ∃ q : Nat, q < s ∧ odX H q = k ∧ ¬ (dcV H s (odX H q) = 0 ↔ vdX H s = 0)))))) := by
  obtain ⟨k1_1, ek1_1⟩ : ∃ z, z = fZ H 1 1 := ⟨_, rfl⟩
  have ik1_1 : k1_1.toInt = (fZ H 1 1).toInt := by rw [← ek1_1]
  have bk1_1 : 0 ≤ k1_1.toInt ∧ k1_1.toInt ≤ 900 := by rw [ek1_1]; exact fZ_of hI sx_1 rfl
  have mkfr : kpX H H := kpX_r
  refine gG_call [(0, .ref 43), (1, .int a1)] ⟨rfl, rfl, trivial⟩ ?_
  show gG 8 zB_31 (mzBlk zB_31 0) [(0, .ref 43), (1, .int a1)] [] H 0 0 _
  refine g_lconst (fun v519 ov519 => ?_)
  refine g_lstore_n (l' := [(0, .ref 43), (1, .int a1), (2, .long v519)]) rfl rfl ?_
  refine g_aload_n rfl ?_
  refine g_gfr hI sx_43 rfl ?_
  refine g_gfr hI sx_24 rfl ?_
  refine g_iload_n rfl ?_
  refine g_invvi hI sx_25 rfl rfl rfl rfl (w_26 a1 (by omega) H hI hJ) (fun v522 H520 r521 => ?_)
  obtain ⟨rfl, bv522, p523⟩ := r521
  have sp := sp_hit hp1.1 hp2 p523 (by omega)
  have spg := sp_ge hp1.1 hp2 p523 (by omega)
  refine g_istore (l' := [(0, .ref 43), (1, .int a1), (2, .long v519), (4, .int v522)]) rfl rfl ?_
  refine g_iconst (by decide) (fun v524 kv524 => ?_)
  refine g_istore (l' := [(0, .ref 43), (1, .int a1), (2, .long v519), (4, .int v522), (5, .int v524)]) rfl rfl ?_
  refine g_nop ?_
  have L530 : ∀ (N : Nat) (v525 : Int64) (v526 : Int32) (H527 : mzH), gI SX H527 → JX H527 → k1_1 = fZ H527 1 1 → kpX H H527 → (0 ≤ v526.toInt ∧ v526.toInt ≤ 59) → (∀ k : Nat, k < 64 → (lbi v525 k = 1 ↔ ∃ q : Nat, q < v526.toInt.toNat ∧ odX H q = k ∧ (fun q => ¬ (dcV H v522.toInt.toNat (odX H q) = 0 ↔ vdX H v522.toInt.toNat = 0)) q)) → (v526.toInt ≤ v522.toInt) → (59 - v526.toInt).toNat < N → gG 8 zB_31 (mzBlk zB_31 1) [(0, .ref 43), (1, .int a1), (2, .long v525), (4, .int v522), (5, .int v526)] [] H527 0 0 (gRl (fun v H' => gI SX H' ∧ JX H' ∧ fZ H' 1 1 = fZ H 1 1 ∧ kpX H H' ∧ (∃ s : Nat, s < (fZ H 25 2).toInt.toNat ∧ odX H s = a1.toInt.toNat ∧ (∀ k : Nat, k < 64 → (lbi v k = 1 ↔ ∃ q : Nat, q < s ∧ odX H q = k ∧ ¬ (dcV H s (odX H q) = 0 ↔ vdX H s = 0)))))) := by
    intro N
    induction N with
    | zero => intro v525 v526 H527 hIH527 hJH527 e528 m529 bv526 q1 q3 hmL530; exact absurd hmL530 (Nat.not_lt_zero _)
    | succ N ihL530 =>
      intro v525 v526 H527 hIH527 hJH527 e528 m529 bv526 q1 q3 hmL530
      refine g_iload rfl ?_
      refine g_iload rfl ?_
      refine g_if2_ge (fun c531 => ?_) (fun c531 => ?_)
      · refine g_lload_n rfl ?_
        exact g_lret ⟨_, rfl, hIH527, hJH527, (e528.symm.trans ek1_1), m529, ⟨v522.toInt.toNat, sp.1, sp.2, fun k hk => by rw [q1 k hk, show v526.toInt.toNat = v522.toInt.toNat by omega]⟩⟩
      · refine g_aload_n rfl ?_
        refine g_gfr hIH527 sx_43 rfl ?_
        refine g_gfr hIH527 sx_24 rfl ?_
        refine g_gfr hIH527 sx_25 rfl ?_
        refine g_iload rfl ?_
        refine g_iaload hIH527 sx_27 rfl (by omega) (fun v532 ev532 lv532 uv532 => ?_)
        have zkv532 : v532.toInt = (odX H v526.toInt.toNat : Int) := by have z : odX H v526.toInt.toNat = v532.toInt.toNat := (by rw [← od_kp m529, ev532]; rfl); omega
        refine g_istore (l' := [(0, .ref 43), (1, .int a1), (2, .long v525), (4, .int v522), (5, .int v526), (6, .int v532)]) rfl rfl ?_
        refine g_aload_n rfl ?_
        refine g_iload rfl ?_
        refine g_iload rfl ?_
        refine g_invvi hIH527 sx_43 rfl rfl rfl rfl (w_30 v532 v522 H527 hIH527 hJH527 (gdY_kp m529 hp0) (by omega)) (fun v535 H533 r534 => ?_)
        obtain ⟨hIH533, hJH533, w536, m537, p538⟩ := r534
        have e539 : k1_1 = fZ H533 1 1 := e528.trans w536.symm
        have m540 : kpX H H533 := kpX_t m529 m537
        have dvv535 : v535.toInt = dcV H v522.toInt.toNat (odX H v526.toInt.toNat) := dv_of m529 hp0 sp.1 (by omega) p538 zkv532
        refine g_if_ne (fun c541 => ?_) (fun c541 => ?_)
        · refine g_iconst (by decide) (fun v542 kv542 => ?_)
          refine g_nop ?_
          refine g_istore (l' := [(0, .ref 43), (1, .int a1), (2, .long v525), (4, .int v522), (5, .int v526), (6, .int v532), (7, .int v542)]) rfl rfl ?_
          refine g_iload rfl ?_
          refine g_aload_n rfl ?_
          refine g_gfr hIH533 sx_43 rfl ?_
          refine g_gfr hIH533 sx_24 rfl ?_
          refine g_iload_n rfl ?_
          refine g_iaload hIH533 sx_42 rfl (by omega) (fun v543 ev543 lv543 uv543 => ?_)
          have yv543 : v543.toInt = vdX H v522.toInt.toNat := by rw [ev543, (m540 42 (by decide)).2]; exact wh_sp (hp1.2 hp0) sp
          refine g_if_ne (fun c544 => ?_) (fun c544 => ?_)
          · refine g_iconst (by decide) (fun v545 kv545 => ?_)
            refine g_nop ?_
            refine g_if2_eq (fun c546 => ?_) (fun c546 => ?_)
            · refine g_iinc (l' := (fun v547 => [(0, .ref 43), (1, .int a1), (2, .long v525), (4, .int v522), (5, .int v547), (6, .int v532), (7, .int v542)])) rfl rfl (by decide) (by omega) (fun _ => rfl) (fun v547 ev547 => ?_)
              refine g_goto ?_
              refine gG_pick [0, 1, 2, 4, 5] (l' := [(0, .ref 43), (1, .int a1), (2, .long v525), (4, .int v522), (5, .int v547)]) rfl ?_
              exact ihL530 v525 v547 H533 hIH533 hJH533 e539 m540 (by omega) (dc_n q1 (by omega) (by show ¬ ¬ (dcV H v522.toInt.toNat (odX H v526.toInt.toNat) = 0 ↔ vdX H v522.toInt.toNat = 0); omega)) (by omega) (by omega)
            · exfalso; omega
          · refine g_iconst (by decide) (fun v548 kv548 => ?_)
            refine g_goto ?_
            refine g_if2_eq (fun c549 => ?_) (fun c549 => ?_)
            · exfalso; omega
            · refine g_lload_n rfl ?_
              refine g_lconst (fun v550 ov550 => ?_)
              refine g_iload rfl ?_
              refine g_lshl (fun v551 ov551 => ?_)
              refine g_lor (fun v552 ov552 => ?_)
              refine g_lstore_n (l' := [(0, .ref 43), (1, .int a1), (2, .long v552), (4, .int v522), (5, .int v526), (6, .int v532), (7, .int v542)]) rfl rfl ?_
              refine g_nop ?_
              refine g_iinc (l' := (fun v553 => [(0, .ref 43), (1, .int a1), (2, .long v552), (4, .int v522), (5, .int v553), (6, .int v532), (7, .int v542)])) rfl rfl (by decide) (by omega) (fun _ => rfl) (fun v553 ev553 => ?_)
              refine g_goto ?_
              refine gG_pick [0, 1, 2, 4, 5] (l' := [(0, .ref 43), (1, .int a1), (2, .long v552), (4, .int v522), (5, .int v553)]) rfl ?_
              exact ihL530 v552 v553 H533 hIH533 hJH533 e539 m540 (by omega) (dc_y q1 ov551 ov550 ov552 (by omega) (by omega) (by omega) (by show ¬ (dcV H v522.toInt.toNat (odX H v526.toInt.toNat) = 0 ↔ vdX H v522.toInt.toNat = 0); omega)) (by omega) (by omega)
        · refine g_iconst (by decide) (fun v554 kv554 => ?_)
          refine g_goto ?_
          refine g_istore (l' := [(0, .ref 43), (1, .int a1), (2, .long v525), (4, .int v522), (5, .int v526), (6, .int v532), (7, .int v554)]) rfl rfl ?_
          refine g_iload rfl ?_
          refine g_aload_n rfl ?_
          refine g_gfr hIH533 sx_43 rfl ?_
          refine g_gfr hIH533 sx_24 rfl ?_
          refine g_iload_n rfl ?_
          refine g_iaload hIH533 sx_42 rfl (by omega) (fun v555 ev555 lv555 uv555 => ?_)
          have yv555 : v555.toInt = vdX H v522.toInt.toNat := by rw [ev555, (m540 42 (by decide)).2]; exact wh_sp (hp1.2 hp0) sp
          refine g_if_ne (fun c556 => ?_) (fun c556 => ?_)
          · refine g_iconst (by decide) (fun v557 kv557 => ?_)
            refine g_nop ?_
            refine g_if2_eq (fun c558 => ?_) (fun c558 => ?_)
            · exfalso; omega
            · refine g_lload_n rfl ?_
              refine g_lconst (fun v559 ov559 => ?_)
              refine g_iload rfl ?_
              refine g_lshl (fun v560 ov560 => ?_)
              refine g_lor (fun v561 ov561 => ?_)
              refine g_lstore_n (l' := [(0, .ref 43), (1, .int a1), (2, .long v561), (4, .int v522), (5, .int v526), (6, .int v532), (7, .int v554)]) rfl rfl ?_
              refine g_nop ?_
              refine g_iinc (l' := (fun v562 => [(0, .ref 43), (1, .int a1), (2, .long v561), (4, .int v522), (5, .int v562), (6, .int v532), (7, .int v554)])) rfl rfl (by decide) (by omega) (fun _ => rfl) (fun v562 ev562 => ?_)
              refine g_goto ?_
              refine gG_pick [0, 1, 2, 4, 5] (l' := [(0, .ref 43), (1, .int a1), (2, .long v561), (4, .int v522), (5, .int v562)]) rfl ?_
              exact ihL530 v561 v562 H533 hIH533 hJH533 e539 m540 (by omega) (dc_y q1 ov560 ov559 ov561 (by omega) (by omega) (by omega) (by show ¬ (dcV H v522.toInt.toNat (odX H v526.toInt.toNat) = 0 ↔ vdX H v522.toInt.toNat = 0); omega)) (by omega) (by omega)
          · refine g_iconst (by decide) (fun v563 kv563 => ?_)
            refine g_goto ?_
            refine g_if2_eq (fun c564 => ?_) (fun c564 => ?_)
            · refine g_iinc (l' := (fun v565 => [(0, .ref 43), (1, .int a1), (2, .long v525), (4, .int v522), (5, .int v565), (6, .int v532), (7, .int v554)])) rfl rfl (by decide) (by omega) (fun _ => rfl) (fun v565 ev565 => ?_)
              refine g_goto ?_
              refine gG_pick [0, 1, 2, 4, 5] (l' := [(0, .ref 43), (1, .int a1), (2, .long v525), (4, .int v522), (5, .int v565)]) rfl ?_
              exact ihL530 v525 v565 H533 hIH533 hJH533 e539 m540 (by omega) (dc_n q1 (by omega) (by show ¬ ¬ (dcV H v522.toInt.toNat (odX H v526.toInt.toNat) = 0 ↔ vdX H v522.toInt.toNat = 0); omega)) (by omega) (by omega)
            · exfalso; omega
  exact L530 _ v519 v524 H hI hJ ek1_1 mkfr (by omega) (dc_0 ov519 (by omega)) (by omega) (Nat.lt_succ_self _)
set_option maxRecDepth 4000 in
set_option maxHeartbeats 4000000 in
/-- X9.needs -/
theorem w_139  (a1 : Int32) (a2 : Int32) (H : mzH) (hI : gI SX H) (hJ : JX H) (hp0 : gdY H) (hp1 : cvW H) : gCall 139 [.ref 0, .int a1, .int a2] H (gRi (fun v H' => gI SX H' ∧ JX H' ∧ fZ H' 1 1 = fZ H 1 1 ∧ kpX H H' ∧ ((v.toInt = -1 ∧ ¬ ((0 ≤ a1.toInt ∧ a1.toInt < (fZ H 3 9).toInt) ∧ 0 ≤ a2.toInt)) ∨ (((0 ≤ a1.toInt ∧ a1.toInt < (fZ H 3 9).toInt) ∧ 0 ≤ a2.toInt) ∧ (∃ s : Nat, s < (fZ H 25 2).toInt.toNat ∧ odX H s = a1.toInt.toNat ∧ ((¬ vdX H s = 0 ∧ v.toInt = -3) ∨ (vdX H s = 0 ∧ ∃ d : Int64, (∀ k : Nat, k < 64 → (lbi d k = 1 ↔ ∃ q : Nat, q < s ∧ odX H q = k ∧ ¬ (dcV H s (odX H q) = 0 ↔ vdX H s = 0))) ∧ v.toInt = pkF (lbi d) 64 0 a2.toInt))))))) := by
  obtain ⟨k1_1, ek1_1⟩ : ∃ z, z = fZ H 1 1 := ⟨_, rfl⟩
  have ik1_1 : k1_1.toInt = (fZ H 1 1).toInt := by rw [← ek1_1]
  have bk1_1 : 0 ≤ k1_1.toInt ∧ k1_1.toInt ≤ 900 := by rw [ek1_1]; exact fZ_of hI sx_1 rfl
  obtain ⟨k3_9, ek3_9⟩ : ∃ z, z = fZ H 3 9 := ⟨_, rfl⟩
  have ik3_9 : k3_9.toInt = (fZ H 3 9).toInt := by rw [← ek3_9]
  have bk3_9 : 0 ≤ k3_9.toInt ∧ k3_9.toInt ≤ 60 := by rw [ek3_9]; exact fZ_of hI sx_3 rfl
  have mkfr : kpX H H := kpX_r
  refine gG_call [(0, .ref 0), (1, .int a1), (2, .int a2)] ⟨rfl, rfl, rfl, trivial⟩ ?_
  show gG 3 zB_139 (mzBlk zB_139 0) [(0, .ref 0), (1, .int a1), (2, .int a2)] [] H 0 0 _
  refine g_aload_n rfl ?_
  refine g_gfr hI sx_0 rfl ?_
  refine g_iload_n rfl ?_
  refine g_invvi hI sx_3 rfl rfl rfl rfl (w_12 a1 H hI hJ) (fun v99 H97 r98 => ?_)
  obtain ⟨rfl, bv99, p100, p101⟩ := r98
  refine g_if_eq (fun c102 => ?_) (fun c102 => ?_)
  · refine g_iconst (by decide) (fun v103 kv103 => ?_)
    exact g_iret ⟨_, rfl, hI, hJ, (ek1_1.symm.trans ek1_1), mkfr, (Or.inl ⟨by omega, by omega⟩)⟩
  · refine g_iload_n rfl ?_
    refine g_if_ge (fun c104 => ?_) (fun c104 => ?_)
    · refine g_aload_n rfl ?_
      refine g_gfr hI sx_0 rfl ?_
      refine g_gfr hI sx_24 rfl ?_
      refine g_iload_n rfl ?_
      refine g_iaload hI sx_42 rfl (by omega) (fun v105 ev105 lv105 uv105 => ?_)
      have yv105 : v105.toInt = (aZ H 42 a1.toInt.toNat).toInt := by rw [ev105]
      refine g_if_eq (fun c106 => ?_) (fun c106 => ?_)
      · refine g_aload_n rfl ?_
        refine g_gfr hI sx_0 rfl ?_
        refine g_iload_n rfl ?_
        refine g_invvl hI sx_43 rfl rfl rfl rfl (w_31 a1 (by omega) H hI hJ hp0 hp1 (by have := hp0.1.2.1; omega)) (fun v109 H107 r108 => ?_)
        obtain ⟨hIH107, hJH107, w110, m111, p112⟩ := r108
        have e113 : k1_1 = fZ H107 1 1 := ek1_1.trans w110.symm
        have m114 : kpX H H107 := kpX_t mkfr m111
        obtain ⟨s, s1, s2, s3⟩ := p112
        refine g_iload_n rfl ?_
        refine g_invti rfl rfl rfl (w_153 v109 a2 H107 hIH107 hJH107 (by omega)) (fun v117 H115 r116 => ?_)
        obtain ⟨rfl, p118⟩ := r116
        exact g_iret ⟨_, rfl, hIH107, hJH107, (e113.symm.trans ek1_1), m114, (Or.inr ⟨by omega, s, s1, s2, Or.inr ⟨by have z := wh_sp (hp1.2 hp0) ⟨s1, s2⟩; omega, v109, s3, by rw [p118]⟩⟩)⟩
      · refine g_bipush (by decide) (fun v119 kv119 => ?_)
        exact g_iret ⟨_, rfl, hI, hJ, (ek1_1.symm.trans ek1_1), mkfr, (Or.inr ⟨by omega, ca_4 hp1 hp0 (by omega) yv105 (by omega) (by omega)⟩)⟩
    · refine g_nop ?_
      refine g_iconst (by decide) (fun v120 kv120 => ?_)
      exact g_iret ⟨_, rfl, hI, hJ, (ek1_1.symm.trans ek1_1), mkfr, (Or.inl ⟨by omega, by omega⟩)⟩
