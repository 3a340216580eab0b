/-! THE REFERENCE: TOGETHER -/
theorem go_y {B C : mzH} {s : pS} {Q : Nat → Prop} {x x2 : Nat} {k v : Int32} (q : ∀ k : Nat, k < 40 → ((aZ B 21 k).toInt = 1 ↔ ∃ y, y < x ∧ tp s y = k ∧ Q y)) (hI : gI SM B) (e : C = sA B 21 k.toInt.toNat v) (hk : k.toInt.toNat < 40) (tk : k.toInt.toNat = tp s x) (hv : v.toInt = 1) (e2 : x2 = x + 1) (d : Q x) : ∀ k : Nat, k < 40 → ((aZ C 21 k).toInt = 1 ↔ ∃ y, y < x2 ∧ tp s y = k ∧ Q y) := fun j hj => by
  subst e2
  if c : j = k.toInt.toNat then
    rw [e, c, aZ_sA_eq hI sm_21 hk, hv]
    exact ⟨fun _ => ⟨x, by omega, tk.symm, d⟩, fun _ => rfl⟩
  else
    rw [e, aZ_sA_ne (Ne.symm c), q j hj]
    constructor
    · rintro ⟨y, y1, y2, y3⟩
      exact ⟨y, by omega, y2, y3⟩
    · rintro ⟨y, y1, y2, y3⟩
      if f : y = x then
        rw [f] at y2
        exact absurd (y2.symm.trans tk.symm) c
      else exact ⟨y, by omega, y2, y3⟩
theorem go_n {B : mzH} {s : pS} {Q : Nat → Prop} {x x2 : Nat} (q : ∀ k : Nat, k < 40 → ((aZ B 21 k).toInt = 1 ↔ ∃ y, y < x ∧ tp s y = k ∧ Q y)) (e2 : x2 = x + 1) (d : ¬ Q x) : ∀ k : Nat, k < 40 → ((aZ B 21 k).toInt = 1 ↔ ∃ y, y < x2 ∧ tp s y = k ∧ Q y) := fun j hj => by
  subst e2
  rw [q j hj]
  constructor
  · rintro ⟨y, y1, y2, y3⟩
    exact ⟨y, by omega, y2, y3⟩
  · rintro ⟨y, y1, y2, y3⟩
    if f : y = x then rw [f] at y3; exact absurd y3 d
    else exact ⟨y, by omega, y2, y3⟩
theorem co_ry {H B C : mzH} {s : pS} {md : Nat → Int} {k k2 v : Int32} (q : ∀ x : Nat, x < k.toInt.toNat → ((aZ B 25 x).toInt = 1 ↔ coR s md (fun y => (aZ H 25 y).toInt = 1) x)) (_ : ∀ x : Nat, k.toInt.toNat ≤ x → aZ B 25 x = aZ H 25 x) (hI : gI SM B) (e : C = sA B 25 k.toInt.toNat v) (hk : k.toInt.toNat < 40) (hv : v.toInt = 1) (e2 : k2.toInt = k.toInt + 1 ∧ 0 ≤ k.toInt) (d : ¬ md k.toInt.toNat = 0 ∧ s.en k.toInt.toNat = 0 ∧ ∃ y, y < 40 ∧ ((aZ H 25 y).toInt = 1 ∧ ¬ md y = 0 ∧ s.en y = 0) ∧ tp s y = tp s k.toInt.toNat) : ∀ x : Nat, x < k2.toInt.toNat → ((aZ C 25 x).toInt = 1 ↔ coR s md (fun y => (aZ H 25 y).toInt = 1) x) := fun x hx => by
  if c : x = k.toInt.toNat then
    rw [e, c, aZ_sA_eq hI sm_25 hk, hv]
    obtain ⟨d1, d2, y, y1, ⟨y2, y3, y4⟩, y5⟩ := d
    exact ⟨fun _ => Or.inr ⟨d1, d2, y, y1, y2, y3, y4, y5⟩, fun _ => rfl⟩
  else
    rw [e, aZ_sA_ne (Ne.symm c)]
    exact q x (by omega)
theorem co_rn {H B : mzH} {s : pS} {md : Nat → Int} {k k2 : Int32} (q : ∀ x : Nat, x < k.toInt.toNat → ((aZ B 25 x).toInt = 1 ↔ coR s md (fun y => (aZ H 25 y).toInt = 1) x)) (q2 : ∀ x : Nat, k.toInt.toNat ≤ x → aZ B 25 x = aZ H 25 x) (hk : k.toInt.toNat < 40) (e2 : k2.toInt = k.toInt + 1 ∧ 0 ≤ k.toInt) (d : ¬ (¬ md k.toInt.toNat = 0 ∧ s.en k.toInt.toNat = 0 ∧ ∃ y, y < 40 ∧ ((aZ H 25 y).toInt = 1 ∧ ¬ md y = 0 ∧ s.en y = 0) ∧ tp s y = tp s k.toInt.toNat)) : ∀ x : Nat, x < k2.toInt.toNat → ((aZ B 25 x).toInt = 1 ↔ coR s md (fun y => (aZ H 25 y).toInt = 1) x) := fun x hx => by
  if c : x = k.toInt.toNat then
    rw [c, q2 _ (Nat.le_refl _)]
    constructor
    · exact Or.inl
    · rintro (z | ⟨d1, d2, y, y1, y2, y3, y4, y5⟩)
      · exact z
      · exact absurd ⟨d1, d2, y, y1, ⟨y2, y3, y4⟩, y5⟩ d
  else exact q x (by omega)
theorem co_rc {s : pS} {md : Nat → Int} {P Q : Nat → Prop} {x : Nat} (e : ∀ y, y < 40 → (P y ↔ Q y)) (hx : x < 40 := by assumption) : coR s md P x ↔ coR s md Q x := by
  unfold coR
  rw [e x hx]
  constructor
  · rintro (z | ⟨d1, d2, y, y1, y2, y3⟩)
    · exact Or.inl z
    · exact Or.inr ⟨d1, d2, y, y1, (e y y1).mp y2, y3⟩
  · rintro (z | ⟨d1, d2, y, y1, y2, y3⟩)
    · exact Or.inl z
    · exact Or.inr ⟨d1, d2, y, y1, (e y y1).mpr y2, y3⟩
theorem mt_0 {B C : mzH} {n : Nat} {k k2 v : Int32} (q : ∀ x : Nat, x < k.toInt.toNat → ((aZ B 25 x).toInt = 1 ↔ x = n)) (hI : gI SM B) (e : C = sA B 25 k.toInt.toNat v) (hk : k.toInt.toNat < 40) (hv : v.toInt = 1 ↔ k.toInt.toNat = n) (e2 : k2.toInt = k.toInt + 1 ∧ 0 ≤ k.toInt) : ∀ x : Nat, x < k2.toInt.toNat → ((aZ C 25 x).toInt = 1 ↔ x = n) := fun x hx => by
  if c : x = k.toInt.toNat then rw [e, c, aZ_sA_eq hI sm_25 hk]; exact hv
  else
    rw [e, aZ_sA_ne (Ne.symm c)]
    exact q x (by omega)
theorem sm_ge {A : mzH} {a : Int} {p k : Nat} (st : stM A a p) (_ : k < cnM A) (h : a < hqM A k) : p ≤ k := by
  if c : p ≤ k then exact c
  else
    have := st.2.1 k (by omega)
    omega
theorem sm_lt {A : mzH} {a : Int} {p k : Nat} (st : stM A a p) (hk : k < cnM A) (h : hqM A k ≤ a) : k < p := by
  if c : k < p then exact c
  else
    rcases st.2.2 with z | z
    · omega
    · have := hq_mono (A := A) (show p ≤ k by omega) hk
      omega
theorem mx_e {p k : Nat} (h : p ≤ k) : (if k ≤ p then p else k) = k := by
  split
  · omega
  · rfl
set_option maxRecDepth 4000 in
set_option maxHeartbeats 4000000 in
/-- M.meets -/
theorem r_235 {s : pS} {md : Nat → Int} (H : mzH) (hI : gI SM H) (hJ : JM H) (hp0 : rwX H s md) (hp1 : dpt s) : gCall 235 [.ref 0] H (gRv (fun H' => gI SM H' ∧ JM H' ∧ (∀ a f, fZ H' a f = fZ H a f) ∧ kpM H H' ∧ (∀ i, aZ H' 2 i = aZ H 2 i) ∧ (∀ i, aZ H' 17 i = aZ H 17 i) ∧ (∀ i, aZ H' 18 i = aZ H 18 i) ∧ (∀ i, aZ H' 19 i = aZ H 19 i) ∧ rwX H' s md ∧ (∀ x : Nat, x < 40 → ((aZ H' 25 x).toInt = 1 ↔ coR s md (fun y => (aZ H 25 y).toInt = 1) x)))) := by
  have mkF : ∀ a f, fZ H a f = fZ H a f := fun _ _ => rfl
  have mkfr : kpM H H := kpM_r
  have mk2 : ∀ i, aZ H 2 i = aZ H 2 i := fun _ => rfl
  have mk17 : ∀ i, aZ H 17 i = aZ H 17 i := fun _ => rfl
  have mk18 : ∀ i, aZ H 18 i = aZ H 18 i := fun _ => rfl
  have mk19 : ∀ i, aZ H 19 i = aZ H 19 i := fun _ => rfl
  refine gG_call [(0, .ref 0)] ⟨rfl, trivial⟩ ?_
  show gG 2 zB_235 (mzBlk zB_235 0) [(0, .ref 0)] [] H 0 0 _
  refine g_iconst (by decide) (fun v757 kv757 => ?_)
  refine g_istore_n (l' := [(0, .ref 0), (1, .int v757)]) rfl rfl ?_
  refine g_nop ?_
  have L766 : ∀ (N : Nat) (v758 : Int32) (H759 : mzH), gI SM H759 → JM H759 → (∀ a f, fZ H759 a f = fZ H a f) → kpM H H759 → (∀ i, aZ H759 2 i = aZ H 2 i) → (∀ i, aZ H759 17 i = aZ H 17 i) → (∀ i, aZ H759 18 i = aZ H 18 i) → (∀ i, aZ H759 19 i = aZ H 19 i) → (0 ≤ v758.toInt ∧ v758.toInt ≤ 40) → rwX H759 s md → (∀ q : Nat, q < v758.toInt.toNat → (aZ H759 21 q).toInt = 0) → (∀ x, aZ H759 25 x = aZ H 25 x) → (40 - v758.toInt).toNat < N → gG 2 zB_235 (mzBlk zB_235 1) [(0, .ref 0), (1, .int v758)] [] H759 0 0 (gRv (fun H' => gI SM H' ∧ JM H' ∧ (∀ a f, fZ H' a f = fZ H a f) ∧ kpM H H' ∧ (∀ i, aZ H' 2 i = aZ H 2 i) ∧ (∀ i, aZ H' 17 i = aZ H 17 i) ∧ (∀ i, aZ H' 18 i = aZ H 18 i) ∧ (∀ i, aZ H' 19 i = aZ H 19 i) ∧ rwX H' s md ∧ (∀ x : Nat, x < 40 → ((aZ H' 25 x).toInt = 1 ↔ coR s md (fun y => (aZ H 25 y).toInt = 1) x)))) := by
    intro N
    induction N with
    | zero => intro v758 H759 hIH759 hJH759 m760 m761 m762 m763 m764 m765 bv758 q5 q7 q8 hmL766; exact absurd hmL766 (Nat.not_lt_zero _)
    | succ N ihL766 =>
      intro v758 H759 hIH759 hJH759 m760 m761 m762 m763 m764 m765 bv758 q5 q7 q8 hmL766
      refine g_iload_n rfl ?_
      refine g_bipush (by decide) (fun v767 kv767 => ?_)
      refine g_if2_ge (fun c768 => ?_) (fun c768 => ?_)
      · refine g_iconst (by decide) (fun v769 kv769 => ?_)
        refine g_istore_n (l' := [(0, .ref 0), (1, .int v769)]) rfl rfl ?_
        refine g_nop ?_
        have L778 : ∀ (N : Nat) (v770 : Int32) (H771 : mzH), gI SM H771 → JM H771 → (∀ a f, fZ H771 a f = fZ H a f) → kpM H H771 → (∀ i, aZ H771 2 i = aZ H 2 i) → (∀ i, aZ H771 17 i = aZ H 17 i) → (∀ i, aZ H771 18 i = aZ H 18 i) → (∀ i, aZ H771 19 i = aZ H 19 i) → (0 ≤ v770.toInt ∧ v770.toInt ≤ 40) → rwX H771 s md → (∀ k : Nat, k < 40 → ((aZ H771 21 k).toInt = 1 ↔ (∃ y, y < v770.toInt.toNat ∧ tp s y = k ∧ ((aZ H 25 y).toInt = 1 ∧ ¬ md y = 0 ∧ s.en y = 0)))) → (∀ x, aZ H771 25 x = aZ H 25 x) → (40 - v770.toInt).toNat < N → gG 2 zB_235 (mzBlk zB_235 3) [(0, .ref 0), (1, .int v770)] [] H771 0 0 (gRv (fun H' => gI SM H' ∧ JM H' ∧ (∀ a f, fZ H' a f = fZ H a f) ∧ kpM H H' ∧ (∀ i, aZ H' 2 i = aZ H 2 i) ∧ (∀ i, aZ H' 17 i = aZ H 17 i) ∧ (∀ i, aZ H' 18 i = aZ H 18 i) ∧ (∀ i, aZ H' 19 i = aZ H 19 i) ∧ rwX H' s md ∧ (∀ x : Nat, x < 40 → ((aZ H' 25 x).toInt = 1 ↔ coR s md (fun y => (aZ H 25 y).toInt = 1) x)))) := by
          intro N
          induction N with
          | zero => intro v770 H771 hIH771 hJH771 m772 m773 m774 m775 m776 m777 bv770 q5 q9 q8 hmL778; exact absurd hmL778 (Nat.not_lt_zero _)
          | succ N ihL778 =>
            intro v770 H771 hIH771 hJH771 m772 m773 m774 m775 m776 m777 bv770 q5 q9 q8 hmL778
            refine g_iload_n rfl ?_
            refine g_bipush (by decide) (fun v779 kv779 => ?_)
            refine g_if2_ge (fun c780 => ?_) (fun c780 => ?_)
            · have qt : ∀ k : Nat, k < 40 → ((aZ H771 21 k).toInt = 1 ↔ (∃ y, y < 40 ∧ tp s y = k ∧ ((aZ H 25 y).toInt = 1 ∧ ¬ md y = 0 ∧ s.en y = 0))) := by have z := q9; rw [show v770.toInt.toNat = 40 by omega] at z; exact z
              refine g_iconst (by decide) (fun v781 kv781 => ?_)
              refine g_istore_n (l' := [(0, .ref 0), (1, .int v781)]) rfl rfl ?_
              refine g_nop ?_
              have L790 : ∀ (N : Nat) (v782 : Int32) (H783 : mzH), gI SM H783 → JM H783 → (∀ a f, fZ H783 a f = fZ H a f) → kpM H H783 → (∀ i, aZ H783 2 i = aZ H 2 i) → (∀ i, aZ H783 17 i = aZ H 17 i) → (∀ i, aZ H783 18 i = aZ H 18 i) → (∀ i, aZ H783 19 i = aZ H 19 i) → (0 ≤ v782.toInt ∧ v782.toInt ≤ 40) → rwX H783 s md → (∀ x : Nat, x < v782.toInt.toNat → ((aZ H783 25 x).toInt = 1 ↔ coR s md (fun y => (aZ H 25 y).toInt = 1) x)) → (∀ x : Nat, v782.toInt.toNat ≤ x → aZ H783 25 x = aZ H 25 x) → (∀ k : Nat, k < 40 → ((aZ H783 21 k).toInt = 1 ↔ (∃ y, y < 40 ∧ tp s y = k ∧ ((aZ H 25 y).toInt = 1 ∧ ¬ md y = 0 ∧ s.en y = 0)))) → (40 - v782.toInt).toNat < N → gG 2 zB_235 (mzBlk zB_235 6) [(0, .ref 0), (1, .int v782)] [] H783 0 0 (gRv (fun H' => gI SM H' ∧ JM H' ∧ (∀ a f, fZ H' a f = fZ H a f) ∧ kpM H H' ∧ (∀ i, aZ H' 2 i = aZ H 2 i) ∧ (∀ i, aZ H' 17 i = aZ H 17 i) ∧ (∀ i, aZ H' 18 i = aZ H 18 i) ∧ (∀ i, aZ H' 19 i = aZ H 19 i) ∧ rwX H' s md ∧ (∀ x : Nat, x < 40 → ((aZ H' 25 x).toInt = 1 ↔ coR s md (fun y => (aZ H 25 y).toInt = 1) x)))) := by
                intro N
                induction N with
                | zero => intro v782 H783 hIH783 hJH783 m784 m785 m786 m787 m788 m789 bv782 q5 q1 q2 q11 hmL790; exact absurd hmL790 (Nat.not_lt_zero _)
                | succ N ihL790 =>
                  intro v782 H783 hIH783 hJH783 m784 m785 m786 m787 m788 m789 bv782 q5 q1 q2 q11 hmL790
                  have gt9 : ∀ x k : Nat, k = tp s x → k < 40 → ((aZ H783 21 k).toInt = 1 ↔ ∃ y, y < 40 ∧ ((aZ H 25 y).toInt = 1 ∧ ¬ md y = 0 ∧ s.en y = 0) ∧ tp s y = tp s x) := fun x k e hk => by rw [q11 k hk, e]; exact ⟨fun ⟨y, y1, y2, y3⟩ => ⟨y, y1, y3, y2⟩, fun ⟨y, y1, y2, y3⟩ => ⟨y, y1, y3, y2⟩⟩
                  refine g_iload_n rfl ?_
                  refine g_bipush (by decide) (fun v791 kv791 => ?_)
                  refine g_if2_ge (fun c792 => ?_) (fun c792 => ?_)
                  · exact g_ret ⟨rfl, hIH783, hJH783, m784, m785, m786, m787, m788, m789, q5, (fun x hx => q1 x (by omega))⟩
                  · refine g_aload_n rfl ?_
                    refine g_gfr hIH783 sm_0 rfl ?_
                    refine g_iload_n rfl ?_
                    refine g_baload hIH783 sm_7 rfl (by omega) (fun v793 ev793 lv793 uv793 => ?_)
                    have yv793 : v793.toInt = md v782.toInt.toNat := by rw [ev793]; exact (q5 _ (by omega)).1
                    refine g_if_eq (fun c794 => ?_) (fun c794 => ?_)
                    · refine g_iinc (l' := (fun v795 => [(0, .ref 0), (1, .int v795)])) rfl rfl (by decide) (by omega) (fun _ => rfl) (fun v795 ev795 => ?_)
                      refine g_goto ?_
                      exact ihL790 v795 H783 hIH783 hJH783 m784 m785 m786 m787 m788 m789 (by omega) q5 (co_rn q1 q2 (by omega) (by omega) (fun z => by have z1 := z.1; have z2 := z.2.1; omega)) (fun x hx => q2 x (by omega)) q11 (by omega)
                    · refine g_aload_n rfl ?_
                      refine g_gfr hIH783 sm_0 rfl ?_
                      refine g_iload_n rfl ?_
                      refine g_baload hIH783 sm_16 rfl (by omega) (fun v796 ev796 lv796 uv796 => ?_)
                      have yv796 : v796.toInt = (s).en v782.toInt.toNat := by rw [ev796]; exact (q5 _ (by omega)).2.2.2.2.2.2.2.2.2
                      refine g_if_ne (fun c797 => ?_) (fun c797 => ?_)
                      · refine g_iinc (l' := (fun v798 => [(0, .ref 0), (1, .int v798)])) rfl rfl (by decide) (by omega) (fun _ => rfl) (fun v798 ev798 => ?_)
                        refine g_goto ?_
                        exact ihL790 v798 H783 hIH783 hJH783 m784 m785 m786 m787 m788 m789 (by omega) q5 (co_rn q1 q2 (by omega) (by omega) (fun z => by have z1 := z.1; have z2 := z.2.1; omega)) (fun x hx => q2 x (by omega)) q11 (by omega)
                      · refine g_aload_n rfl ?_
                        refine g_gfr hIH783 sm_0 rfl ?_
                        refine g_aload_n rfl ?_
                        refine g_iload_n rfl ?_
                        refine g_invvi hIH783 sm_0 rfl rfl rfl rfl (r_185 v782 (by omega) H783 hIH783 hJH783 q5 hp1) (fun v801 H799 r800 => ?_)
                        obtain ⟨rfl, bv801, p802⟩ := r800
                        have tnv801 : v801.toInt.toNat = tp s v782.toInt.toNat := by omega
                        refine g_baload hIH783 sm_21 rfl (by omega) (fun v803 ev803 lv803 uv803 => ?_)
                        have yv803 : v803.toInt = (aZ H783 21 v801.toInt.toNat).toInt := by rw [ev803]
                        refine g_if_eq (fun c804 => ?_) (fun c804 => ?_)
                        · refine g_iinc (l' := (fun v805 => [(0, .ref 0), (1, .int v805)])) rfl rfl (by decide) (by omega) (fun _ => rfl) (fun v805 ev805 => ?_)
                          refine g_goto ?_
                          exact ihL790 v805 H783 hIH783 hJH783 m784 m785 m786 m787 m788 m789 (by omega) q5 (co_rn q1 q2 (by omega) (by omega) (fun z => by have z1 := (gt9 v782.toInt.toNat v801.toInt.toNat tnv801 (by omega)).mpr z.2.2; omega)) (fun x hx => q2 x (by omega)) q11 (by omega)
                        · refine g_aload_n rfl ?_
                          refine g_gfr hIH783 sm_0 rfl ?_
                          refine g_iload_n rfl ?_
                          refine g_iconst (by decide) (fun v806 kv806 => ?_)
                          refine g_zastore hIH783 sm_25 (by omega) (by omega) (fun H807 eH807 hIH807 => ?_)
                          have hJH807 : JM H807 := JM_sA (by decide) eH807 hJH783
                          have m808 : ∀ a f, fZ H807 a f = fZ H a f := fun a f => (by rw [eH807, fZ_sA] : fZ H807 a f = fZ H783 a f).trans (m784 a f)
                          have m809 : kpM H H807 := kpM_A m785 eH807 (by omega)
                          have m810 : ∀ i, aZ H807 2 i = aZ H 2 i := fun i => (by rw [eH807, aZ_sA_nc (by omega)] : aZ H807 2 i = aZ H783 2 i).trans (m786 i)
                          have m811 : ∀ i, aZ H807 17 i = aZ H 17 i := fun i => (by rw [eH807, aZ_sA_nc (by omega)] : aZ H807 17 i = aZ H783 17 i).trans (m787 i)
                          have m812 : ∀ i, aZ H807 18 i = aZ H 18 i := fun i => (by rw [eH807, aZ_sA_nc (by omega)] : aZ H807 18 i = aZ H783 18 i).trans (m788 i)
                          have m813 : ∀ i, aZ H807 19 i = aZ H 19 i := fun i => (by rw [eH807, aZ_sA_nc (by omega)] : aZ H807 19 i = aZ H783 19 i).trans (m789 i)
                          have wdH807 : rwX H807 s md := rw_o q5 eH807 (by decide)
                          refine g_nop ?_
                          refine g_iinc (l' := (fun v814 => [(0, .ref 0), (1, .int v814)])) rfl rfl (by decide) (by omega) (fun _ => rfl) (fun v814 ev814 => ?_)
                          refine g_goto ?_
                          exact ihL790 v814 H807 hIH807 hJH807 m808 m809 m810 m811 m812 m813 (by omega) wdH807 (co_ry q1 q2 hIH783 eH807 (by omega) (by omega) (by omega) ⟨by omega, by omega, (gt9 v782.toInt.toNat v801.toInt.toNat tnv801 (by omega)).mp (by omega)⟩) (fun x hx => by rw [eH807, aZ_sA_ne (by omega)]; exact q2 x (by omega)) (fun k hk => by rw [eH807, aZ_sA_nc (by decide)]; exact q11 k hk) (by omega)
              exact L790 _ v781 H771 hIH771 hJH771 m772 m773 m774 m775 m776 m777 (by omega) q5 (fun x hx => by omega) (fun x hx => q8 x) qt (Nat.lt_succ_self _)
            · refine g_aload_n rfl ?_
              refine g_gfr hIH771 sm_0 rfl ?_
              refine g_iload_n rfl ?_
              refine g_baload hIH771 sm_25 rfl (by omega) (fun v815 ev815 lv815 uv815 => ?_)
              have yv815 : v815.toInt = (aZ H771 25 v770.toInt.toNat).toInt := by rw [ev815]
              refine g_if_eq (fun c816 => ?_) (fun c816 => ?_)
              · refine g_iinc (l' := (fun v817 => [(0, .ref 0), (1, .int v817)])) rfl rfl (by decide) (by omega) (fun _ => rfl) (fun v817 ev817 => ?_)
                refine g_goto ?_
                exact ihL778 v817 H771 hIH771 hJH771 m772 m773 m774 m775 m776 m777 (by omega) q5 (go_n q9 (by omega) (fun z => by have z1 := z.1; rw [← q8] at z1; have z2 := z.2; omega)) q8 (by omega)
              · refine g_aload_n rfl ?_
                refine g_gfr hIH771 sm_0 rfl ?_
                refine g_iload_n rfl ?_
                refine g_baload hIH771 sm_7 rfl (by omega) (fun v818 ev818 lv818 uv818 => ?_)
                have yv818 : v818.toInt = md v770.toInt.toNat := by rw [ev818]; exact (q5 _ (by omega)).1
                refine g_if_eq (fun c819 => ?_) (fun c819 => ?_)
                · refine g_iinc (l' := (fun v820 => [(0, .ref 0), (1, .int v820)])) rfl rfl (by decide) (by omega) (fun _ => rfl) (fun v820 ev820 => ?_)
                  refine g_goto ?_
                  exact ihL778 v820 H771 hIH771 hJH771 m772 m773 m774 m775 m776 m777 (by omega) q5 (go_n q9 (by omega) (fun z => by have z1 := z.1; rw [← q8] at z1; have z2 := z.2; omega)) q8 (by omega)
                · refine g_aload_n rfl ?_
                  refine g_gfr hIH771 sm_0 rfl ?_
                  refine g_iload_n rfl ?_
                  refine g_baload hIH771 sm_16 rfl (by omega) (fun v821 ev821 lv821 uv821 => ?_)
                  have yv821 : v821.toInt = (s).en v770.toInt.toNat := by rw [ev821]; exact (q5 _ (by omega)).2.2.2.2.2.2.2.2.2
                  refine g_if_ne (fun c822 => ?_) (fun c822 => ?_)
                  · refine g_iinc (l' := (fun v823 => [(0, .ref 0), (1, .int v823)])) rfl rfl (by decide) (by omega) (fun _ => rfl) (fun v823 ev823 => ?_)
                    refine g_goto ?_
                    exact ihL778 v823 H771 hIH771 hJH771 m772 m773 m774 m775 m776 m777 (by omega) q5 (go_n q9 (by omega) (fun z => by have z1 := z.1; rw [← q8] at z1; have z2 := z.2; omega)) q8 (by omega)
                  · refine g_aload_n rfl ?_
                    refine g_gfr hIH771 sm_0 rfl ?_
                    refine g_aload_n rfl ?_
                    refine g_iload_n rfl ?_
                    refine g_invvi hIH771 sm_0 rfl rfl rfl rfl (r_185 v770 (by omega) H771 hIH771 hJH771 q5 hp1) (fun v826 H824 r825 => ?_)
                    obtain ⟨rfl, bv826, p827⟩ := r825
                    have tnv826 : v826.toInt.toNat = tp s v770.toInt.toNat := by omega
                    refine g_iconst (by decide) (fun v828 kv828 => ?_)
                    refine g_zastore hIH771 sm_21 (by omega) (by omega) (fun H829 eH829 hIH829 => ?_)
                    have hJH829 : JM H829 := JM_sA (by decide) eH829 hJH771
                    have m830 : ∀ a f, fZ H829 a f = fZ H a f := fun a f => (by rw [eH829, fZ_sA] : fZ H829 a f = fZ H771 a f).trans (m772 a f)
                    have m831 : kpM H H829 := kpM_A m773 eH829 (by omega)
                    have m832 : ∀ i, aZ H829 2 i = aZ H 2 i := fun i => (by rw [eH829, aZ_sA_nc (by omega)] : aZ H829 2 i = aZ H771 2 i).trans (m774 i)
                    have m833 : ∀ i, aZ H829 17 i = aZ H 17 i := fun i => (by rw [eH829, aZ_sA_nc (by omega)] : aZ H829 17 i = aZ H771 17 i).trans (m775 i)
                    have m834 : ∀ i, aZ H829 18 i = aZ H 18 i := fun i => (by rw [eH829, aZ_sA_nc (by omega)] : aZ H829 18 i = aZ H771 18 i).trans (m776 i)
                    have m835 : ∀ i, aZ H829 19 i = aZ H 19 i := fun i => (by rw [eH829, aZ_sA_nc (by omega)] : aZ H829 19 i = aZ H771 19 i).trans (m777 i)
                    have wdH829 : rwX H829 s md := rw_o q5 eH829 (by decide)
                    refine g_nop ?_
                    refine g_iinc (l' := (fun v836 => [(0, .ref 0), (1, .int v836)])) rfl rfl (by decide) (by omega) (fun _ => rfl) (fun v836 ev836 => ?_)
                    refine g_goto ?_
                    exact ihL778 v836 H829 hIH829 hJH829 m830 m831 m832 m833 m834 m835 (by omega) wdH829 (go_y q9 hIH771 eH829 (by omega) tnv826 (by omega) (by omega) ⟨by rw [← q8]; omega, by omega, by omega⟩) (fun x => by rw [eH829, aZ_sA_nc (by decide)]; exact q8 x) (by omega)
        exact L778 _ v769 H759 hIH759 hJH759 m760 m761 m762 m763 m764 m765 (by omega) q5 (fun k hk => by rw [q7 k (by omega)]; exact ⟨fun z => absurd z (by decide), fun ⟨y, z, _⟩ => by omega⟩) q8 (Nat.lt_succ_self _)
      · refine g_aload_n rfl ?_
        refine g_gfr hIH759 sm_0 rfl ?_
        refine g_iload_n rfl ?_
        refine g_iconst (by decide) (fun v837 kv837 => ?_)
        refine g_zastore hIH759 sm_21 (by omega) (by omega) (fun H838 eH838 hIH838 => ?_)
        have hJH838 : JM H838 := JM_sA (by decide) eH838 hJH759
        have m839 : ∀ a f, fZ H838 a f = fZ H a f := fun a f => (by rw [eH838, fZ_sA] : fZ H838 a f = fZ H759 a f).trans (m760 a f)
        have m840 : kpM H H838 := kpM_A m761 eH838 (by omega)
        have m841 : ∀ i, aZ H838 2 i = aZ H 2 i := fun i => (by rw [eH838, aZ_sA_nc (by omega)] : aZ H838 2 i = aZ H759 2 i).trans (m762 i)
        have m842 : ∀ i, aZ H838 17 i = aZ H 17 i := fun i => (by rw [eH838, aZ_sA_nc (by omega)] : aZ H838 17 i = aZ H759 17 i).trans (m763 i)
        have m843 : ∀ i, aZ H838 18 i = aZ H 18 i := fun i => (by rw [eH838, aZ_sA_nc (by omega)] : aZ H838 18 i = aZ H759 18 i).trans (m764 i)
        have m844 : ∀ i, aZ H838 19 i = aZ H 19 i := fun i => (by rw [eH838, aZ_sA_nc (by omega)] : aZ H838 19 i = aZ H759 19 i).trans (m765 i)
        have wdH838 : rwX H838 s md := rw_o q5 eH838 (by decide)
        refine g_iinc (l' := (fun v845 => [(0, .ref 0), (1, .int v845)])) rfl rfl (by decide) (by omega) (fun _ => rfl) (fun v845 ev845 => ?_)
        refine g_goto ?_
        exact ihL766 v845 H838 hIH838 hJH838 m839 m840 m841 m842 m843 m844 (by omega) wdH838 (fun q hq => by rw [eH838]; if e : v758.toInt.toNat = q then (subst e; rw [aZ_sA_eq hIH759 sm_21 (by omega), kv837]) else (rw [aZ_sA_ne e]; exact q7 q (by omega))) (fun x => by rw [eH838, aZ_sA_nc (by decide)]; exact q8 x) (by omega)
  exact L766 _ v757 H hI hJ mkF mkfr mk2 mk17 mk18 mk19 (by omega) hp0 (fun q hq => absurd hq (by omega)) (fun _ => rfl) (Nat.lt_succ_self _)
set_option maxRecDepth 4000 in
set_option maxHeartbeats 4000000 in
/-- M.met -/
theorem r_237 (a1 : Int32) (a2 : Int32) (a3 : Int32) (H : mzH) (hI : gI SM H) (hJ : JN H) (hp0 : ((∀ A, tkW H A → gdM A))) : gCall 237 [.ref 0, .int a1, .int a2, .int a3] H (gRi (fun v H' => gI SM H' ∧ JN H' ∧ fZ H' 0 2 = fZ H 0 2 ∧ kpM H H' ∧ ((v.toInt = -1 ∧ ¬ ((0 ≤ a1.toInt ∧ a1.toInt ≤ 39) ∧ (0 ≤ a2.toInt ∧ a2.toInt ≤ 999) ∧ 0 ≤ a3.toInt)) ∨ (((0 ≤ a1.toInt ∧ a1.toInt ≤ 39) ∧ (0 ≤ a2.toInt ∧ a2.toInt ≤ 999) ∧ 0 ≤ a3.toInt) ∧ ∃ A : mzH, tkW H A ∧ ∃ G : mzH, clR (rgM G) (mdM G) ∧ (∃ p : Nat, stM A a2.toInt p ∧ ((((fM A G p).2 a1.toInt.toNat = 0 ∨ ¬ (fM A G p).1.en a1.toInt.toNat = 0) ∧ v.toInt = -2) ∨ ((¬ (fM A G p).2 a1.toInt.toNat = 0 ∧ (fM A G p).1.en a1.toInt.toNat = 0) ∧ ∃ g : Nat → Int, (∀ x : Nat, x < 40 → (g x = 1 ↔ mtR (fM A G) a1.toInt.toNat p (cnM A - p) x)) ∧ v.toInt = pkF g 40 0 a3.toInt))))))) := by
  obtain ⟨k0_2, ek0_2⟩ : ∃ z, z = fZ H 0 2 := ⟨_, rfl⟩
  have ik0_2 : k0_2.toInt = (fZ H 0 2).toInt := by rw [← ek0_2]
  have bk0_2 : 0 ≤ k0_2.toInt ∧ k0_2.toInt ≤ 900 := by rw [ek0_2]; exact fZ_of hI sm_0 rfl
  have mkfr : kpM H H := kpM_r
  refine gG_call [(0, .ref 0), (1, .int a1), (2, .int a2), (3, .int a3)] ⟨rfl, rfl, rfl, rfl, trivial⟩ ?_
  show gG 5 zB_237 (mzBlk zB_237 0) [(0, .ref 0), (1, .int a1), (2, .int a2), (3, .int a3)] [] H 0 0 _
  refine g_aload_n rfl ?_
  refine g_iconst (by decide) (fun v1209 kv1209 => ?_)
  refine g_pfi hI sm_0 rfl (gz_any _) (fun H1210 eH1210 hIH1210 => ?_)
  have hJH1210 : JN H1210 := JN_sF eH1210 hJ
  have e1211 : k0_2 = fZ H1210 0 2 := by rw [eH1210, fZ_sF_ne (by decide)]; exact ek0_2
  have m1212 : kpM H H1210 := kpM_F mkfr eH1210 (by omega)
  refine g_iload_n rfl ?_
  refine g_invti rfl rfl rfl (r_205 a1 H1210 hIH1210 hJH1210) (fun v1215 H1213 r1214 => ?_)
  obtain ⟨rfl, bv1215, p1216⟩ := r1214
  refine g_if_eq (fun c1217 => ?_) (fun c1217 => ?_)
  · refine g_iconst (by decide) (fun v1218 kv1218 => ?_)
    exact g_iret ⟨_, rfl, hIH1210, hJH1210, (e1211.symm.trans ek0_2), m1212, (Or.inl ⟨by omega, by omega⟩)⟩
  · refine g_iload_n rfl ?_
    refine g_invti rfl rfl rfl (r_206 a2 H1210 hIH1210 hJH1210) (fun v1221 H1219 r1220 => ?_)
    obtain ⟨rfl, bv1221, p1222⟩ := r1220
    refine g_if_eq (fun c1223 => ?_) (fun c1223 => ?_)
    · refine g_iconst (by decide) (fun v1224 kv1224 => ?_)
      exact g_iret ⟨_, rfl, hIH1210, hJH1210, (e1211.symm.trans ek0_2), m1212, (Or.inl ⟨by omega, by omega⟩)⟩
    · refine g_iload_n rfl ?_
      refine g_if_ge (fun c1225 => ?_) (fun c1225 => ?_)
      · refine g_aload_n rfl ?_
        refine g_iload_n rfl ?_
        refine g_invvv hIH1210 sm_0 rfl rfl rfl rfl (rt_200 a2 H1210 hIH1210 hJH1210 (fun A t => hp0 A (tk_kp m1212 t))) (fun H1226 r1227 => ?_)
        obtain ⟨hIH1226, hJH1226, w1228, m1229, p1230⟩ := r1227
        have e1231 : k0_2 = fZ H1226 0 2 := e1211.trans w1228.symm
        have m1232 : kpM H H1226 := kpM_t m1212 m1229
        obtain ⟨A1233, uA1233, G1234, clG1234, p1235, wdp1235, stp1235, wyp1235, odG1234, hoA1233⟩ := p1230
        have tA1233 : tkW H A1233 := tk_kp m1212 uA1233
        have gmA1233 := hp0 A1233 tA1233
        obtain ⟨dpp1235, lap1235⟩ := gmA1233.2 G1234 clG1234 p1235 stp1235.1
        refine g_aload_n rfl ?_
        refine g_gfr hIH1226 sm_0 rfl ?_
        refine g_iload_n rfl ?_
        refine g_baload hIH1226 sm_7 rfl (by omega) (fun v1236 ev1236 lv1236 uv1236 => ?_)
        have yv1236 : v1236.toInt = (fM A1233 G1234 p1235).2 a1.toInt.toNat := by rw [ev1236]; exact (wdp1235 _ (by omega)).1
        refine g_if_eq (fun c1237 => ?_) (fun c1237 => ?_)
        · refine g_bipush (by decide) (fun v1238 kv1238 => ?_)
          exact g_iret ⟨_, rfl, hIH1226, (JM_n hJH1226), (e1231.symm.trans ek0_2), m1232, (Or.inr ⟨by omega, A1233, tA1233, G1234, clG1234, p1235, stp1235, Or.inl ⟨by omega, by omega⟩⟩)⟩
        · refine g_aload_n rfl ?_
          refine g_gfr hIH1226 sm_0 rfl ?_
          refine g_iload_n rfl ?_
          refine g_baload hIH1226 sm_16 rfl (by omega) (fun v1239 ev1239 lv1239 uv1239 => ?_)
          have yv1239 : v1239.toInt = ((fM A1233 G1234 p1235).1).en a1.toInt.toNat := by rw [ev1239]; exact (wdp1235 _ (by omega)).2.2.2.2.2.2.2.2.2
          refine g_if_eq (fun c1240 => ?_) (fun c1240 => ?_)
          · refine g_iconst (by decide) (fun v1241 kv1241 => ?_)
            refine g_istore (l' := [(0, .ref 0), (1, .int a1), (2, .int a2), (3, .int a3), (4, .int v1241)]) rfl rfl ?_
            refine g_nop ?_
            have L1250 : ∀ (N : Nat) (v1242 : Int32) (H1243 : mzH), gI SM H1243 → JM H1243 → k0_2 = fZ H1243 0 2 → kpM H H1243 → (0 ≤ v1242.toInt ∧ v1242.toInt ≤ 40) → (∀ i, aZ H1243 18 i = aZ A1233 18 i) → (∀ i, aZ H1243 2 i = aZ A1233 2 i) → (∀ i, aZ H1243 19 i = aZ H1226 19 i) → fZ H1243 0 34 = fZ H1226 0 34 → rwX H1243 (fM A1233 G1234 p1235).1 (fM A1233 G1234 p1235).2 → (∀ q : Nat, q < v1242.toInt.toNat → ((aZ H1243 25 q).toInt = 1 ↔ q = a1.toInt.toNat)) → (40 - v1242.toInt).toNat < N → gG 5 zB_237 (mzBlk zB_237 5) [(0, .ref 0), (1, .int a1), (2, .int a2), (3, .int a3), (4, .int v1242)] [] H1243 0 0 (gRi (fun v H' => gI SM H' ∧ JN H' ∧ fZ H' 0 2 = fZ H 0 2 ∧ kpM H H' ∧ ((v.toInt = -1 ∧ ¬ ((0 ≤ a1.toInt ∧ a1.toInt ≤ 39) ∧ (0 ≤ a2.toInt ∧ a2.toInt ≤ 999) ∧ 0 ≤ a3.toInt)) ∨ (((0 ≤ a1.toInt ∧ a1.toInt ≤ 39) ∧ (0 ≤ a2.toInt ∧ a2.toInt ≤ 999) ∧ 0 ≤ a3.toInt) ∧ ∃ A : mzH, tkW H A ∧ ∃ G : mzH, clR (rgM G) (mdM G) ∧ (∃ p : Nat, stM A a2.toInt p ∧ ((((fM A G p).2 a1.toInt.toNat = 0 ∨ ¬ (fM A G p).1.en a1.toInt.toNat = 0) ∧ v.toInt = -2) ∨ ((¬ (fM A G p).2 a1.toInt.toNat = 0 ∧ (fM A G p).1.en a1.toInt.toNat = 0) ∧ ∃ g : Nat → Int, (∀ x : Nat, x < 40 → (g x = 1 ↔ mtR (fM A G) a1.toInt.toNat p (cnM A - p) x)) ∧ v.toInt = pkF g 40 0 a3.toInt))))))) := by
              intro N
              induction N with
              | zero => intro v1242 H1243 hIH1243 hJH1243 e1244 m1245 bv1242 xq1246 xq1247 xq1248 xq1249 q5 q7 hmL1250; exact absurd hmL1250 (Nat.not_lt_zero _)
              | succ N ihL1250 =>
                intro v1242 H1243 hIH1243 hJH1243 e1244 m1245 bv1242 xq1246 xq1247 xq1248 xq1249 q5 q7 hmL1250
                refine g_iload rfl ?_
                refine g_bipush (by decide) (fun v1251 kv1251 => ?_)
                refine g_if2_ge (fun c1252 => ?_) (fun c1252 => ?_)
                · have s00 : ∀ x : Nat, x < 40 → ((aZ H1243 25 x).toInt = 1 ↔ x = a1.toInt.toNat) := fun x hx => q7 x (by omega)
                  refine g_aload_n rfl ?_
                  refine g_invvv hIH1243 sm_0 rfl rfl rfl rfl (r_235 H1243 hIH1243 hJH1243 q5 dpp1235) (fun H1253 r1254 => ?_)
                  obtain ⟨hIH1253, hJH1253, m1255, m1256, m1257, m1258, m1259, m1260, p1261, p1262⟩ := r1254
                  have e1263 : k0_2 = fZ H1253 0 2 := e1244.trans (m1255 0 2).symm
                  have m1264 : kpM H H1253 := kpM_t m1245 m1256
                  have xm1265 : (∀ i, aZ H1253 18 i = aZ A1233 18 i) := fun i => (m1259 i : aZ H1253 18 i = aZ H1243 18 i).trans (xq1246 i)
                  have xm1266 : (∀ i, aZ H1253 2 i = aZ A1233 2 i) := fun i => (m1257 i : aZ H1253 2 i = aZ H1243 2 i).trans (xq1247 i)
                  have xm1267 : (∀ i, aZ H1253 19 i = aZ H1226 19 i) := fun i => (m1260 i : aZ H1253 19 i = aZ H1243 19 i).trans (xq1248 i)
                  have xm1268 : fZ H1253 0 34 = fZ H1226 0 34 := (m1255 0 34 : fZ H1253 0 34 = fZ H1243 0 34).trans xq1249
                  have s25 : ∀ x : Nat, x < 40 → ((aZ H1253 25 x).toInt = 1 ↔ (mtR (fM A1233 G1234) a1.toInt.toNat p1235 0) x) := fun x hx => by rw [p1262 x hx]; exact co_rc (fun y hy => s00 y hy)
                  refine g_iconst (by decide) (fun v1269 kv1269 => ?_)
                  refine g_istore (l' := [(0, .ref 0), (1, .int a1), (2, .int a2), (3, .int a3), (4, .int v1269)]) rfl rfl ?_
                  refine g_nop ?_
                  have L1278 : ∀ (N : Nat) (v1270 : Int32) (H1271 : mzH), gI SM H1271 → JM H1271 → k0_2 = fZ H1271 0 2 → kpM H H1271 → (0 ≤ v1270.toInt ∧ v1270.toInt ≤ 60) → (∀ i, aZ H1271 18 i = aZ A1233 18 i) → (∀ i, aZ H1271 2 i = aZ A1233 2 i) → (∀ i, aZ H1271 19 i = aZ H1226 19 i) → fZ H1271 0 34 = fZ H1226 0 34 → rwX H1271 (fM A1233 G1234 (if v1270.toInt.toNat ≤ p1235 then p1235 else v1270.toInt.toNat)).1 (fM A1233 G1234 (if v1270.toInt.toNat ≤ p1235 then p1235 else v1270.toInt.toNat)).2 → (∀ x : Nat, x < 40 → ((aZ H1271 25 x).toInt = 1 ↔ (mtR (fM A1233 G1234) a1.toInt.toNat p1235 (v1270.toInt.toNat - p1235)) x)) → (v1270.toInt : Int) ≤ (cnM A1233 : Int) → (60 - v1270.toInt).toNat < N → gG 5 zB_237 (mzBlk zB_237 9) [(0, .ref 0), (1, .int a1), (2, .int a2), (3, .int a3), (4, .int v1270)] [] H1271 0 0 (gRi (fun v H' => gI SM H' ∧ JN H' ∧ fZ H' 0 2 = fZ H 0 2 ∧ kpM H H' ∧ ((v.toInt = -1 ∧ ¬ ((0 ≤ a1.toInt ∧ a1.toInt ≤ 39) ∧ (0 ≤ a2.toInt ∧ a2.toInt ≤ 999) ∧ 0 ≤ a3.toInt)) ∨ (((0 ≤ a1.toInt ∧ a1.toInt ≤ 39) ∧ (0 ≤ a2.toInt ∧ a2.toInt ≤ 999) ∧ 0 ≤ a3.toInt) ∧ ∃ A : mzH, tkW H A ∧ ∃ G : mzH, clR (rgM G) (mdM G) ∧ (∃ p : Nat, stM A a2.toInt p ∧ ((((fM A G p).2 a1.toInt.toNat = 0 ∨ ¬ (fM A G p).1.en a1.toInt.toNat = 0) ∧ v.toInt = -2) ∨ ((¬ (fM A G p).2 a1.toInt.toNat = 0 ∧ (fM A G p).1.en a1.toInt.toNat = 0) ∧ ∃ g : Nat → Int, (∀ x : Nat, x < 40 → (g x = 1 ↔ mtR (fM A G) a1.toInt.toNat p (cnM A - p) x)) ∧ v.toInt = pkF g 40 0 a3.toInt))))))) := by
                    intro N
                    induction N with
                    | zero => intro v1270 H1271 hIH1271 hJH1271 e1272 m1273 bv1270 xq1274 xq1275 xq1276 xq1277 q5 q6 q8 hmL1278; exact absurd hmL1278 (Nat.not_lt_zero _)
                    | succ N ihL1278 =>
                      intro v1270 H1271 hIH1271 hJH1271 e1272 m1273 bv1270 xq1274 xq1275 xq1276 xq1277 q5 q6 q8 hmL1278
                      refine g_iload rfl ?_
                      refine g_aload_n rfl ?_
                      refine g_gfi hIH1271 sm_0 rfl (fun v1279 ev1279 lv1279 uv1279 => ?_)
                      have zv1279 : v1279.toInt = (cnM A1233 : Int) := by rw [ev1279]; exact od_n (od_cg2 xq1276 xq1277 odG1234)
                      refine g_if2_ge (fun c1280 => ?_) (fun c1280 => ?_)
                      · refine g_aload_n rfl ?_
                        refine g_gfr hIH1271 sm_0 rfl ?_
                        refine g_iload_n rfl ?_
                        refine g_invti rfl rfl rfl (r_236 a3 H1271 hIH1271 (JM_n hJH1271) (by omega)) (fun v1283 H1281 r1282 => ?_)
                        obtain ⟨rfl, p1284⟩ := r1282
                        exact g_iret ⟨_, rfl, hIH1271, (JM_n hJH1271), (e1272.symm.trans ek0_2), m1273, (Or.inr ⟨by omega, A1233, tA1233, G1234, clG1234, p1235, stp1235, Or.inr ⟨by omega, _, by rw [show cnM A1233 = v1270.toInt.toNat by omega]; exact q6, p1284⟩⟩)⟩
                      · refine g_aload_n rfl ?_
                        refine g_gfr hIH1271 sm_0 rfl ?_
                        refine g_aload_n rfl ?_
                        refine g_gfr hIH1271 sm_0 rfl ?_
                        refine g_iload rfl ?_
                        refine g_iaload hIH1271 sm_19 rfl (by omega) (fun v1285 ev1285 lv1285 uv1285 => ?_)
                        have zkv1285 : v1285.toInt.toNat = odM A1233 v1270.toInt.toNat := by rw [ev1285]; exact od_g (od_cg2 xq1276 xq1277 odG1234) (by omega)
                        refine g_iaload hIH1271 sm_18 rfl (by omega) (fun v1286 ev1286 lv1286 uv1286 => ?_)
                        have hzv1286 : v1286.toInt = (aZ A1233 18 v1285.toInt.toNat).toInt := by rw [ev1286, xq1274]
                        have hvv1286 : v1286.toInt = hqM A1233 v1270.toInt.toNat := by show _ = (aZ _ 18 (odM _ _)).toInt; rw [hzv1286, zkv1285]
                        refine g_iload_n rfl ?_
                        refine g_if2_gt (fun c1287 => ?_) (fun c1287 => ?_)
                        · have kp : p1235 ≤ v1270.toInt.toNat := sm_ge stp1235 (by omega) (by omega)
                          have q5b : rwX H1271 (fM A1233 G1234 v1270.toInt.toNat).1 (fM A1233 G1234 v1270.toInt.toNat).2 := by have z := q5; rw [mx_e kp] at z; exact z
                          refine g_aload_n rfl ?_
                          refine g_aload_n rfl ?_
                          refine g_gfr hIH1271 sm_0 rfl ?_
                          refine g_iload rfl ?_
                          refine g_ialoadk hIH1271 sm_19 rfl (by omega) ev1285 ?_
                          refine g_invvv hIH1271 sm_0 rfl rfl rfl rfl (r_192 v1285 (by omega) H1271 hIH1271 hJH1271 q5b (gmA1233.2 G1234 clG1234 v1270.toInt.toNat (by omega)).1 (gmA1233.2 G1234 clG1234 v1270.toInt.toNat (by omega)).2 (by rw [xq1274, zkv1285]; exact gmA1233.1 v1270.toInt.toNat (by omega)) (bt_of hIH1271 q5b)) (fun H1288 r1289 => ?_)
                          obtain ⟨hIH1288, hJH1288, m1290, m1291, m1292, m1293, m1294, m1295, m1296, m1297, m1298, m1299, p1300, p1301, p1302⟩ := r1289
                          have e1303 : k0_2 = fZ H1288 0 2 := e1272.trans (m1290 0 2).symm
                          have m1304 : kpM H H1288 := kpM_t m1273 m1294
                          have xm1305 : (∀ i, aZ H1288 18 i = aZ A1233 18 i) := fun i => (m1295 i : aZ H1288 18 i = aZ H1271 18 i).trans (xq1274 i)
                          have xm1306 : (∀ i, aZ H1288 2 i = aZ A1233 2 i) := fun i => (m1291 i : aZ H1288 2 i = aZ H1271 2 i).trans (xq1275 i)
                          have xm1307 : (∀ i, aZ H1288 19 i = aZ H1226 19 i) := fun i => (m1292 i : aZ H1288 19 i = aZ H1271 19 i).trans (xq1276 i)
                          have xm1308 : fZ H1288 0 34 = fZ H1226 0 34 := (m1290 0 34 : fZ H1288 0 34 = fZ H1271 0 34).trans xq1277
                          have xm1309 : (∀ i, aZ H1288 25 i = aZ H1271 25 i) := fun i => (m1299 i : aZ H1288 25 i = aZ H1271 25 i).trans ((fun _ => rfl) i)
                          have wzp1310 : rwX H1288 (fM A1233 G1234 (v1270.toInt.toNat + 1)).1 (fM A1233 G1234 (v1270.toInt.toNat + 1)).2 := fm_st (H := A1233) (kpM_d tA1233.1 m1273) xq1274 xq1275 p1300 zkv1285 (by omega) rfl
                          obtain ⟨dpp1310, lap1310⟩ := gmA1233.2 G1234 clG1234 (v1270.toInt.toNat + 1) (by omega)
                          refine g_aload_n rfl ?_
                          refine g_invvv hIH1288 sm_0 rfl rfl rfl rfl (r_235 H1288 hIH1288 hJH1288 wzp1310 dpp1310) (fun H1311 r1312 => ?_)
                          obtain ⟨hIH1311, hJH1311, m1313, m1314, m1315, m1316, m1317, m1318, p1319, p1320⟩ := r1312
                          have e1321 : k0_2 = fZ H1311 0 2 := e1303.trans (m1313 0 2).symm
                          have m1322 : kpM H H1311 := kpM_t m1304 m1314
                          have xm1323 : (∀ i, aZ H1311 18 i = aZ A1233 18 i) := fun i => (m1317 i : aZ H1311 18 i = aZ H1288 18 i).trans (xm1305 i)
                          have xm1324 : (∀ i, aZ H1311 2 i = aZ A1233 2 i) := fun i => (m1315 i : aZ H1311 2 i = aZ H1288 2 i).trans (xm1306 i)
                          have xm1325 : (∀ i, aZ H1311 19 i = aZ H1226 19 i) := fun i => (m1318 i : aZ H1311 19 i = aZ H1288 19 i).trans (xm1307 i)
                          have xm1326 : fZ H1311 0 34 = fZ H1226 0 34 := (m1313 0 34 : fZ H1311 0 34 = fZ H1288 0 34).trans xm1308
                          have s251327 : ∀ x : Nat, x < 40 → ((aZ H1311 25 x).toInt = 1 ↔ (mtR (fM A1233 G1234) a1.toInt.toNat p1235 (v1270.toInt.toNat - p1235 + 1)) x) := fun x hx => by rw [p1320 x hx]; show _ ↔ coR (fM A1233 G1234 (p1235 + (v1270.toInt.toNat - p1235) + 1)).1 (fM A1233 G1234 (p1235 + (v1270.toInt.toNat - p1235) + 1)).2 _ x; rw [show p1235 + (v1270.toInt.toNat - p1235) + 1 = v1270.toInt.toNat + 1 by omega]; exact co_rc (fun y hy => by rw [xm1309 y]; exact q6 y hy)
                          refine g_nop ?_
                          refine g_iinc (l' := (fun v1328 => [(0, .ref 0), (1, .int a1), (2, .int a2), (3, .int a3), (4, .int v1328)])) rfl rfl (by decide) (by omega) (fun _ => rfl) (fun v1328 ev1328 => ?_)
                          refine g_goto ?_
                          exact ihL1278 v1328 H1311 hIH1311 hJH1311 e1321 m1322 (by omega) xm1323 xm1324 xm1325 xm1326 (by rw [if_neg (show ¬ v1328.toInt.toNat ≤ p1235 by omega), show v1328.toInt.toNat = v1270.toInt.toNat + 1 by omega]; exact p1319) (by rw [show v1328.toInt.toNat - p1235 = v1270.toInt.toNat - p1235 + 1 by omega]; exact s251327) (by omega) (by omega)
                        · refine g_goto ?_
                          have kl : v1270.toInt.toNat < p1235 := sm_lt stp1235 (by omega) (by omega)
                          refine g_iinc (l' := (fun v1329 => [(0, .ref 0), (1, .int a1), (2, .int a2), (3, .int a3), (4, .int v1329)])) rfl rfl (by decide) (by omega) (fun _ => rfl) (fun v1329 ev1329 => ?_)
                          refine g_goto ?_
                          exact ihL1278 v1329 H1271 hIH1271 hJH1271 e1272 m1273 (by omega) xq1274 xq1275 xq1276 xq1277 (by rw [if_pos (show v1329.toInt.toNat ≤ p1235 by omega)]; rw [if_pos (show v1270.toInt.toNat ≤ p1235 by omega)] at q5; exact q5) (by rw [show v1329.toInt.toNat - p1235 = 0 by omega]; rw [show v1270.toInt.toNat - p1235 = 0 by omega] at q6; exact q6) (by omega) (by omega)
                  exact L1278 _ v1269 H1253 hIH1253 hJH1253 e1263 m1264 (by omega) xm1265 xm1266 xm1267 xm1268 (by rw [if_pos (show v1269.toInt.toNat ≤ p1235 by omega)]; exact p1261) (by rw [show v1269.toInt.toNat - p1235 = 0 by omega]; exact s25) (by omega) (Nat.lt_succ_self _)
                · refine g_aload_n rfl ?_
                  refine g_gfr hIH1243 sm_0 rfl ?_
                  refine g_iload rfl ?_
                  refine g_iload rfl ?_
                  refine g_iload_n rfl ?_
                  refine g_if2_ne (fun c1330 => ?_) (fun c1330 => ?_)
                  · refine g_iconst (by decide) (fun v1331 kv1331 => ?_)
                    refine g_nop ?_
                    refine g_zastore hIH1243 sm_25 (by omega) (by omega) (fun H1332 eH1332 hIH1332 => ?_)
                    have hJH1332 : JM H1332 := JM_sA (by decide) eH1332 hJH1243
                    have e1333 : k0_2 = fZ H1332 0 2 := by rw [eH1332, fZ_sA]; exact e1244
                    have m1334 : kpM H H1332 := kpM_A m1245 eH1332 (by omega)
                    have wdH1332 : rwX H1332 (fM A1233 G1234 p1235).1 (fM A1233 G1234 p1235).2 := rw_o q5 eH1332 (by decide)
                    have xm1335 : (∀ i, aZ H1332 18 i = aZ A1233 18 i) := fun i => (by rw [eH1332, aZ_sA_nc (by decide)] : aZ H1332 18 i = aZ H1243 18 i).trans (xq1246 i)
                    have xm1336 : (∀ i, aZ H1332 2 i = aZ A1233 2 i) := fun i => (by rw [eH1332, aZ_sA_nc (by decide)] : aZ H1332 2 i = aZ H1243 2 i).trans (xq1247 i)
                    have xm1337 : (∀ i, aZ H1332 19 i = aZ H1226 19 i) := fun i => (by rw [eH1332, aZ_sA_nc (by decide)] : aZ H1332 19 i = aZ H1243 19 i).trans (xq1248 i)
                    have xm1338 : fZ H1332 0 34 = fZ H1226 0 34 := (by rw [eH1332, fZ_sA] : fZ H1332 0 34 = fZ H1243 0 34).trans xq1249
                    refine g_iinc (l' := (fun v1339 => [(0, .ref 0), (1, .int a1), (2, .int a2), (3, .int a3), (4, .int v1339)])) rfl rfl (by decide) (by omega) (fun _ => rfl) (fun v1339 ev1339 => ?_)
                    refine g_goto ?_
                    exact ihL1250 v1339 H1332 hIH1332 hJH1332 e1333 m1334 (by omega) xm1335 xm1336 xm1337 xm1338 wdH1332 (mt_0 q7 hIH1243 eH1332 (by omega) (by omega) (by omega)) (by omega)
                  · refine g_iconst (by decide) (fun v1340 kv1340 => ?_)
                    refine g_goto ?_
                    refine g_zastore hIH1243 sm_25 (by omega) (by omega) (fun H1341 eH1341 hIH1341 => ?_)
                    have hJH1341 : JM H1341 := JM_sA (by decide) eH1341 hJH1243
                    have e1342 : k0_2 = fZ H1341 0 2 := by rw [eH1341, fZ_sA]; exact e1244
                    have m1343 : kpM H H1341 := kpM_A m1245 eH1341 (by omega)
                    have wdH1341 : rwX H1341 (fM A1233 G1234 p1235).1 (fM A1233 G1234 p1235).2 := rw_o q5 eH1341 (by decide)
                    have xm1344 : (∀ i, aZ H1341 18 i = aZ A1233 18 i) := fun i => (by rw [eH1341, aZ_sA_nc (by decide)] : aZ H1341 18 i = aZ H1243 18 i).trans (xq1246 i)
                    have xm1345 : (∀ i, aZ H1341 2 i = aZ A1233 2 i) := fun i => (by rw [eH1341, aZ_sA_nc (by decide)] : aZ H1341 2 i = aZ H1243 2 i).trans (xq1247 i)
                    have xm1346 : (∀ i, aZ H1341 19 i = aZ H1226 19 i) := fun i => (by rw [eH1341, aZ_sA_nc (by decide)] : aZ H1341 19 i = aZ H1243 19 i).trans (xq1248 i)
                    have xm1347 : fZ H1341 0 34 = fZ H1226 0 34 := (by rw [eH1341, fZ_sA] : fZ H1341 0 34 = fZ H1243 0 34).trans xq1249
                    refine g_iinc (l' := (fun v1348 => [(0, .ref 0), (1, .int a1), (2, .int a2), (3, .int a3), (4, .int v1348)])) rfl rfl (by decide) (by omega) (fun _ => rfl) (fun v1348 ev1348 => ?_)
                    refine g_goto ?_
                    exact ihL1250 v1348 H1341 hIH1341 hJH1341 e1342 m1343 (by omega) xm1344 xm1345 xm1346 xm1347 wdH1341 (mt_0 q7 hIH1243 eH1341 (by omega) (by omega) (by omega)) (by omega)
            exact L1250 _ v1241 H1226 hIH1226 hJH1226 e1231 m1232 (by omega) hoA1233 (fun i => (m1232.1 2 (by decide) i).trans (tA1233.2.1 i).symm) (fun _ => rfl) rfl wdp1235 (fun q hq => absurd hq (by omega)) (Nat.lt_succ_self _)
          · refine g_nop ?_
            refine g_bipush (by decide) (fun v1349 kv1349 => ?_)
            exact g_iret ⟨_, rfl, hIH1226, (JM_n hJH1226), (e1231.symm.trans ek0_2), m1232, (Or.inr ⟨by omega, A1233, tA1233, G1234, clG1234, p1235, stp1235, Or.inl ⟨by omega, by omega⟩⟩)⟩
      · refine g_nop ?_
        refine g_iconst (by decide) (fun v1350 kv1350 => ?_)
        exact g_iret ⟨_, rfl, hIH1210, hJH1210, (e1211.symm.trans ek0_2), m1212, (Or.inl ⟨by omega, by omega⟩)⟩
