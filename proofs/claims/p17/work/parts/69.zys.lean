/-! THE REFERENCE'S TWO TO BLAME -/
/-- of the pairs ahead of (p, q): the first of those at which w is least -/
def bwT (w : Nat → Nat → Int) (N p q : Nat) (o1 o2 l : Int) : Prop := ((∀ u v, u < v → v < N → ¬ prP p q u v) ∧ o1 = -1) ∨ (∃ x y : Nat, x < y ∧ y < N ∧ prP p q x y ∧ o1 = (x : Int) ∧ o2 = (y : Int) ∧ l = w x y ∧ ∀ u v, u < v → v < N → prP p q u v → w x y < w u v ∨ (w x y = w u v ∧ (x < u ∨ (x = u ∧ y ≤ v))))
def bwV (w : Nat → Nat → Int) (N : Nat) (k v : Int) : Prop := ∃ o1 o2 l, bwT w N N (N + 1) o1 o2 l ∧ ((o1 = -1 ∧ v = -2) ∨ (¬ o1 = -1 ∧ v = if k = 0 then o1 else if k = 1 then o2 else l))
theorem bwt_0 {w : Nat → Nat → Int} {N p q : Nat} {o1 o2 l : Int} (hp : p = 0) (hq : q = p + 1) (h : o1 = -1) : bwT w N p q o1 o2 l := by
  subst hp hq
  exact Or.inl ⟨fun u v h1 h2 z => by
    unfold prP at z
    omega, h⟩
theorem bwt_e {w : Nat → Nat → Int} {N p : Nat} {o1 o2 l : Int} (h : bwT w N p (p + 1) o1 o2 l) (e : p = N) : bwT w N N (N + 1) o1 o2 l := by
  subst e
  exact h
theorem bwt_r {w : Nat → Nat → Int} {N p q p2 q2 : Nat} {o1 o2 l : Int} (h : bwT w N p q o1 o2 l) (hq : N ≤ q) (hp : p2 = p + 1) (hq2 : q2 = p2 + 1) : bwT w N p2 q2 o1 o2 l := by
  subst hp hq2
  have e : ∀ u v, u < v → v < N → (prP (p + 1) (p + 1 + 1) u v → prP p q u v) := fun u v h1 h2 z => by
    unfold prP at *
    omega
  rcases h with ⟨a, b⟩ | ⟨x, y, h1, h2, h0, h3, h4, h5, h6⟩
  · exact Or.inl ⟨fun u v u1 u2 z => a u v u1 u2 (e u v u1 u2 z), b⟩
  · exact Or.inr ⟨x, y, h1, h2, by
      unfold prP at *
      omega, h3, h4, h5, fun u v u1 u2 z => h6 u v u1 u2 (e u v u1 u2 z)⟩
theorem bwt_y {w : Nat → Nat → Int} {N p q q2 : Nat} {o1 o2 l a b c : Int} (h : bwT w N p q o1 o2 l) (e : q2 = q + 1) (cc : o1 = -1 ∨ w p q < l) (hp : p < q) (hq : q < N) (ha : a = (p : Int)) (hb : b = (q : Int)) (hc : c = w p q) : bwT w N p q2 a b c := by
  subst e ha hb hc
  refine Or.inr ⟨p, q, hp, hq, Or.inr ⟨rfl, Nat.lt_succ_self _⟩, rfl, rfl, rfl, fun u v u1 u2 z => ?_⟩
  if d : u = p ∧ v = q then
    obtain ⟨rfl, rfl⟩ := d
    exact Or.inr ⟨rfl, Or.inr ⟨rfl, Nat.le_refl _⟩⟩
  else
    have z2 : prP p q u v := by
      unfold prP at *
      omega
    rcases h with ⟨h1, _⟩ | ⟨x, y, _, _, _, h3, h4, h5, h6⟩
    · exact absurd z2 (h1 u v u1 u2)
    · left
      have k := h6 u v u1 u2 z2
      omega
theorem bwt_n {w : Nat → Nat → Int} {N p q q2 : Nat} {o1 o2 l a b c : Int} (h : bwT w N p q o1 o2 l) (e : q2 = q + 1) (cc : ¬ (o1 = -1 ∨ w p q < l)) (hp : p < q) (hq : q < N) (ha : a = o1) (hb : b = o2) (hc : c = l) : bwT w N p q2 a b c := by
  subst e ha hb hc
  rcases h with ⟨_, h2⟩ | ⟨x, y, h1, h2, h0, h3, h4, h5, h6⟩
  · exact absurd (Or.inl h2) cc
  · refine Or.inr ⟨x, y, h1, h2, by
      unfold prP at *
      omega, h3, h4, h5, fun u v u1 u2 z => ?_⟩
    if d : u = p ∧ v = q then
      obtain ⟨rfl, rfl⟩ := d
      unfold prP at h0
      omega
    else exact h6 u v u1 u2 (by
      unfold prP at *
      omega)
theorem pb2_kp {H B : mzH} {w : Nat → Nat → Int} (k : kpM H B) (h : (∀ m i : Nat, m < i → (i : Int) < (aZ H 2 2).toInt → ∀ A : mzH, tkQ H A → (∀ q : Nat, (q : Int) < (aZ H 2 2).toInt → (inM A q ≠ 0 ↔ (¬ (q : Int) = (m : Int) ∧ ¬ (q : Int) = (i : Int))) ∧ hoM A q = (aZ H 2 (69 + 5 * q)).toInt) → ∀ G : mzH, clR (rgM G) (mdM G) → cnt (fun x => ¬ rvM A G x = 0) (cnM A) = w m i)) : (∀ m i : Nat, m < i → (i : Int) < (aZ B 2 2).toInt → ∀ A : mzH, tkQ B A → (∀ q : Nat, (q : Int) < (aZ B 2 2).toInt → (inM A q ≠ 0 ↔ (¬ (q : Int) = (m : Int) ∧ ¬ (q : Int) = (i : Int))) ∧ hoM A q = (aZ B 2 (69 + 5 * q)).toInt) → ∀ G : mzH, clR (rgM G) (mdM G) → cnt (fun x => ¬ rvM A G x = 0) (cnM A) = w m i) := fun m i hmi hi A t sb G cG => by
  rw [k.1 2 (by decide)] at hi
  refine h m i hmi hi A (tkQ_kp k t) (sb_kp k sb) G cG
set_option maxRecDepth 4000 in
set_option maxHeartbeats 4000000 in
/-- M.blames -/
theorem q_226 {w : Nat → Nat → Int} (a1 : Int32) (ha1 : 1 ≤ a1.toInt ∧ a1.toInt ≤ 1) (H : mzH) (hI : gI SM H) (hJ : JN H) (hp0 : ((∀ A, tkQ H A → gdM A))) (hp1 : (∀ k : Nat, (k : Int) < (aZ H 2 2).toInt → 0 ≤ (aZ H 2 (69 + 5 * k)).toInt ∧ (aZ H 2 (69 + 5 * k)).toInt ≤ 999)) (hp2 : (∀ m i : Nat, m < i → (i : Int) < (aZ H 2 2).toInt → ∀ A : mzH, tkQ H A → (∀ q : Nat, (q : Int) < (aZ H 2 2).toInt → (inM A q ≠ 0 ↔ (¬ (q : Int) = (m : Int) ∧ ¬ (q : Int) = (i : Int))) ∧ hoM A q = (aZ H 2 (69 + 5 * q)).toInt) → ∀ G : mzH, clR (rgM G) (mdM G) → cnt (fun x => ¬ rvM A G x = 0) (cnM A) = w m i)) : gCall 226 [.ref 0, .int a1] H (gRv (fun H' => gI SM H' ∧ JN H' ∧ fZ H' 0 2 = fZ H 0 2 ∧ kpM H H' ∧ bwT w (aZ H 2 2).toInt.toNat (aZ H 2 2).toInt.toNat ((aZ H 2 2).toInt.toNat + 1) (fZ H' 0 41).toInt (fZ H' 0 42).toInt (fZ H' 0 43).toInt)) := by
  obtain ⟨k0_2, ek0_2⟩ : ∃ z, z = fZ H 0 2 := ⟨_, rfl⟩
  have ik0_2 : k0_2.toInt = (fZ H 0 2).toInt := by rw [← ek0_2]
  have bk0_2 : 0 ≤ k0_2.toInt ∧ k0_2.toInt ≤ 900 := by rw [ek0_2]; exact fZ_of hI sm_0 rfl
  have mkfr : kpM H H := kpM_r
  refine gG_call [(0, .ref 0), (1, .int a1)] ⟨rfl, rfl, trivial⟩ ?_
  show gG 5 zB_226 (mzBlk zB_226 0) [(0, .ref 0), (1, .int a1)] [] H 0 0 _
  refine g_aload_n rfl ?_
  refine g_iconst (by decide) (fun v1004 kv1004 => ?_)
  refine g_pfi hI sm_0 rfl (gz_any _) (fun H1005 eH1005 hIH1005 => ?_)
  have hJH1005 : JN H1005 := JN_sF eH1005 hJ
  have e1006 : k0_2 = fZ H1005 0 2 := by rw [eH1005, fZ_sF_ne (by decide)]; exact ek0_2
  have e1007 : v1004 = fZ H1005 0 41 := by rw [eH1005, fZ_sF_eq hI sm_0 rfl]
  have m1008 : kpM H H1005 := kpM_F mkfr eH1005 (by omega)
  have jj1009_42 : (fZ H1005 0 42).toInt = (fZ H 0 42).toInt := by rw [eH1005, fZ_sF_ne (by decide)]
  have jj1010_43 : (fZ H1005 0 43).toInt = (fZ H 0 43).toInt := by rw [eH1005, fZ_sF_ne (by decide)]
  have ie1007 : v1004.toInt = (fZ H1005 0 41).toInt := by rw [← e1007]
  refine g_iconst (by decide) (fun v1011 kv1011 => ?_)
  refine g_istore_n (l' := [(0, .ref 0), (1, .int a1), (2, .int v1011)]) rfl rfl ?_
  refine g_nop ?_
  have L1016 : ∀ (N : Nat) (v1012 : Int32) (H1013 : mzH), gI SM H1013 → JN H1013 → k0_2 = fZ H1013 0 2 → kpM H H1013 → (0 ≤ v1012.toInt ∧ v1012.toInt ≤ 60) → bwT w (aZ H 2 2).toInt.toNat v1012.toInt.toNat (v1012.toInt.toNat + 1) (fZ H1013 0 41).toInt (fZ H1013 0 42).toInt (fZ H1013 0 43).toInt → (v1012.toInt ≤ 0 ∨ v1012.toInt ≤ (aZ H 2 2).toInt) → (60 - v1012.toInt).toNat < N → gG 5 zB_226 (mzBlk zB_226 1) [(0, .ref 0), (1, .int a1), (2, .int v1012)] [] H1013 0 0 (gRv (fun H' => gI SM H' ∧ JN H' ∧ fZ H' 0 2 = fZ H 0 2 ∧ kpM H H' ∧ bwT w (aZ H 2 2).toInt.toNat (aZ H 2 2).toInt.toNat ((aZ H 2 2).toInt.toNat + 1) (fZ H' 0 41).toInt (fZ H' 0 42).toInt (fZ H' 0 43).toInt)) := by
    intro N
    induction N with
    | zero => intro v1012 H1013 hIH1013 hJH1013 e1014 m1015 bv1012 q1 q2 hmL1016; exact absurd hmL1016 (Nat.not_lt_zero _)
    | succ N ihL1016 =>
      intro v1012 H1013 hIH1013 hJH1013 e1014 m1015 bv1012 q1 q2 hmL1016
      refine g_iload_n rfl ?_
      refine g_aload_n rfl ?_
      refine g_invvi hIH1013 sm_0 rfl rfl rfl rfl (s_180 H1013 hIH1013 hJH1013) (fun v1019 H1017 r1018 => ?_)
      obtain ⟨rfl, bv1019, p1020⟩ := r1018
      have hm2 := congrArg Int32.toInt (m1015.1 2 (by decide) 2)
      refine g_if2_ge (fun c1021 => ?_) (fun c1021 => ?_)
      · exact g_ret ⟨rfl, hIH1013, hJH1013, (e1014.symm.trans ek0_2), m1015, (bwt_e q1 (by omega))⟩
      · refine g_iload_n rfl ?_
        refine g_iconst (by decide) (fun v1022 kv1022 => ?_)
        refine g_iadd (by omega) (fun v1023 ev1023 => ?_)
        refine g_istore_n (l' := [(0, .ref 0), (1, .int a1), (2, .int v1012), (3, .int v1023)]) rfl rfl ?_
        refine g_nop ?_
        have L1028 : ∀ (N : Nat) (v1024 : Int32) (H1025 : mzH), gI SM H1025 → JN H1025 → k0_2 = fZ H1025 0 2 → kpM H H1025 → (1 ≤ v1024.toInt ∧ v1024.toInt ≤ 60) → bwT w (aZ H 2 2).toInt.toNat v1012.toInt.toNat v1024.toInt.toNat (fZ H1025 0 41).toInt (fZ H1025 0 42).toInt (fZ H1025 0 43).toInt → (v1012.toInt + 1 ≤ v1024.toInt ∧ v1024.toInt ≤ (aZ H 2 2).toInt) → (v1012.toInt < (aZ H 2 2).toInt) → (60 - v1024.toInt).toNat < N → gG 5 zB_226 (mzBlk zB_226 2) [(0, .ref 0), (1, .int a1), (2, .int v1012), (3, .int v1024)] [] H1025 0 0 (gRv (fun H' => gI SM H' ∧ JN H' ∧ fZ H' 0 2 = fZ H 0 2 ∧ kpM H H' ∧ bwT w (aZ H 2 2).toInt.toNat (aZ H 2 2).toInt.toNat ((aZ H 2 2).toInt.toNat + 1) (fZ H' 0 41).toInt (fZ H' 0 42).toInt (fZ H' 0 43).toInt)) := by
          intro N
          induction N with
          | zero => intro v1024 H1025 hIH1025 hJH1025 e1026 m1027 bv1024 q1 q4 q5 hmL1028; exact absurd hmL1028 (Nat.not_lt_zero _)
          | succ N ihL1028 =>
            intro v1024 H1025 hIH1025 hJH1025 e1026 m1027 bv1024 q1 q4 q5 hmL1028
            refine g_iload_n rfl ?_
            refine g_iload_n rfl ?_
            refine g_if_eq (fun c1029 => ?_) (fun c1029 => ?_)
            · exfalso; omega
            · refine g_aload_n rfl ?_
              refine g_invvi hIH1025 sm_0 rfl rfl rfl rfl (s_180 H1025 hIH1025 hJH1025) (fun v1032 H1030 r1031 => ?_)
              obtain ⟨rfl, bv1032, p1033⟩ := r1031
              have hm2 := congrArg Int32.toInt (m1027.1 2 (by decide) 2)
              refine g_goto ?_
              refine g_if2_ge (fun c1034 => ?_) (fun c1034 => ?_)
              · refine g_iinc (l' := (fun v1035 => [(0, .ref 0), (1, .int a1), (2, .int v1035), (3, .int v1024)])) rfl rfl (by decide) (by omega) (fun _ => rfl) (fun v1035 ev1035 => ?_)
                refine g_goto ?_
                refine gG_pick [0, 1, 2] (l' := [(0, .ref 0), (1, .int a1), (2, .int v1035)]) rfl ?_
                exact ihL1016 v1035 H1025 hIH1025 hJH1025 e1026 m1027 (by omega) (bwt_r q1 (by omega) (by omega) rfl) (by omega) (by omega)
              · refine g_aload_n rfl ?_
                refine g_iload_n rfl ?_
                refine g_iload_n rfl ?_
                refine g_if_eq (fun c1036 => ?_) (fun c1036 => ?_)
                · exfalso; omega
                · refine g_iload_n rfl ?_
                  refine g_goto ?_
                  refine g_invvv hIH1025 sm_0 rfl rfl rfl rfl (r_222 v1012 (by omega) v1024 (by omega) H1025 hIH1025 hJH1025 (fun A t => hp0 A (tkQ_kp m1027 t)) (hr_kp m1027 hp1)) (fun H1037 r1038 => ?_)
                  obtain ⟨hIH1037, hJH1037, w1039, w1040, w1041, w1042, w1043, m1044, p1045⟩ := r1038
                  have e1046 : k0_2 = fZ H1037 0 2 := e1026.trans w1039.symm
                  have iw1041 : (fZ H1037 0 41).toInt = (fZ H1025 0 41).toInt := by rw [w1041]
                  have iw1042 : (fZ H1037 0 42).toInt = (fZ H1025 0 42).toInt := by rw [w1042]
                  have iw1043 : (fZ H1037 0 43).toInt = (fZ H1025 0 43).toInt := by rw [w1043]
                  have m1047 : kpM H H1037 := kpM_t m1027 m1044
                  obtain ⟨A1048, ttA1048, sbA1048, G1049, clG1049, wdA1048, wyA1048, oiA1048⟩ := p1045
                  have uA1048 : tkQ H A1048 := tkQ_kp m1027 ttA1048
                  have sdA1048 := sb_kp m1027 sbA1048
                  have pbA1048 := hp2 v1012.toInt.toNat v1024.toInt.toNat (by omega) (by omega) A1048 uA1048 (fun q hq => by have z := sdA1048 q hq; rw [show ((v1012.toInt.toNat : Nat) : Int) = v1012.toInt by omega, show ((v1024.toInt.toNat : Nat) : Int) = v1024.toInt by omega]; exact z) G1049 clG1049
                  refine g_aload_n rfl ?_
                  refine g_invvi hIH1037 sm_0 rfl rfl rfl rfl (r_224 H1037 hIH1037 (JM_n hJH1037) oiA1048 wyA1048) (fun v1052 H1050 r1051 => ?_)
                  obtain ⟨rfl, p1053⟩ := r1051
                  have yv1052 : v1052.toInt = w v1012.toInt.toNat v1024.toInt.toNat := p1053.trans pbA1048
                  refine g_istore (l' := [(0, .ref 0), (1, .int a1), (2, .int v1012), (3, .int v1024), (4, .int v1052)]) rfl rfl ?_
                  refine g_aload_n rfl ?_
                  refine g_gfi hIH1037 sm_0 rfl (fun v1054 ev1054 lv1054 uv1054 => ?_)
                  have iev1054 : v1054.toInt = (fZ H1037 0 41).toInt := by rw [← ev1054]
                  refine g_iconst (by decide) (fun v1055 kv1055 => ?_)
                  refine g_if2_eq (fun c1056 => ?_) (fun c1056 => ?_)
                  · refine g_aload_n rfl ?_
                    refine g_iload_n rfl ?_
                    refine g_pfi hIH1037 sm_0 rfl (gz_any _) (fun H1057 eH1057 hIH1057 => ?_)
                    have hJH1057 : JM H1057 := JM_sF eH1057 hJH1037
                    have e1058 : k0_2 = fZ H1057 0 2 := by rw [eH1057, fZ_sF_ne (by decide)]; exact e1046
                    have e1059 : v1012 = fZ H1057 0 41 := by rw [eH1057, fZ_sF_eq hIH1037 sm_0 rfl]
                    have m1060 : kpM H H1057 := kpM_F m1047 eH1057 (by omega)
                    have jj1061_42 : (fZ H1057 0 42).toInt = (fZ H1037 0 42).toInt := by rw [eH1057, fZ_sF_ne (by decide)]
                    have jj1062_43 : (fZ H1057 0 43).toInt = (fZ H1037 0 43).toInt := by rw [eH1057, fZ_sF_ne (by decide)]
                    have ie1059 : v1012.toInt = (fZ H1057 0 41).toInt := by rw [← e1059]
                    refine g_aload_n rfl ?_
                    refine g_iload_n rfl ?_
                    refine g_pfi hIH1057 sm_0 rfl (gz_any _) (fun H1063 eH1063 hIH1063 => ?_)
                    have hJH1063 : JM H1063 := JM_sF eH1063 hJH1057
                    have e1064 : k0_2 = fZ H1063 0 2 := by rw [eH1063, fZ_sF_ne (by decide)]; exact e1058
                    have e1065 : v1012 = fZ H1063 0 41 := by rw [eH1063, fZ_sF_ne (by decide)]; exact e1059
                    have e1066 : v1024 = fZ H1063 0 42 := by rw [eH1063, fZ_sF_eq hIH1057 sm_0 rfl]
                    have m1067 : kpM H H1063 := kpM_F m1060 eH1063 (by omega)
                    have jj1068_43 : (fZ H1063 0 43).toInt = (fZ H1057 0 43).toInt := by rw [eH1063, fZ_sF_ne (by decide)]
                    have ie1065 : v1012.toInt = (fZ H1063 0 41).toInt := by rw [← e1065]
                    have ie1066 : v1024.toInt = (fZ H1063 0 42).toInt := by rw [← e1066]
                    refine g_aload_n rfl ?_
                    refine g_iload rfl ?_
                    refine g_pfi hIH1063 sm_0 rfl (gz_any _) (fun H1069 eH1069 hIH1069 => ?_)
                    have hJH1069 : JM H1069 := JM_sF eH1069 hJH1063
                    have e1070 : k0_2 = fZ H1069 0 2 := by rw [eH1069, fZ_sF_ne (by decide)]; exact e1064
                    have e1071 : v1012 = fZ H1069 0 41 := by rw [eH1069, fZ_sF_ne (by decide)]; exact e1065
                    have e1072 : v1024 = fZ H1069 0 42 := by rw [eH1069, fZ_sF_ne (by decide)]; exact e1066
                    have e1073 : v1052 = fZ H1069 0 43 := by rw [eH1069, fZ_sF_eq hIH1063 sm_0 rfl]
                    have m1074 : kpM H H1069 := kpM_F m1067 eH1069 (by omega)
                    have ie1071 : v1012.toInt = (fZ H1069 0 41).toInt := by rw [← e1071]
                    have ie1072 : v1024.toInt = (fZ H1069 0 42).toInt := by rw [← e1072]
                    have ie1073 : v1052.toInt = (fZ H1069 0 43).toInt := by rw [← e1073]
                    refine g_nop ?_
                    refine g_iinc (l' := (fun v1075 => [(0, .ref 0), (1, .int a1), (2, .int v1012), (3, .int v1075), (4, .int v1052)])) rfl rfl (by decide) (by omega) (fun _ => rfl) (fun v1075 ev1075 => ?_)
                    refine g_goto ?_
                    refine gG_pick [0, 1, 2, 3] (l' := [(0, .ref 0), (1, .int a1), (2, .int v1012), (3, .int v1075)]) rfl ?_
                    exact ihL1028 v1075 H1069 hIH1069 (JM_n hJH1069) e1070 m1074 (by omega) (bwt_y q1 (by omega) (by omega) (by omega) (by omega) (by omega) (by omega) (by omega)) (by omega) (by omega) (by omega)
                  · refine g_iload rfl ?_
                    refine g_aload_n rfl ?_
                    refine g_gfi hIH1037 sm_0 rfl (fun v1076 ev1076 lv1076 uv1076 => ?_)
                    have iev1076 : v1076.toInt = (fZ H1037 0 43).toInt := by rw [← ev1076]
                    refine g_if2_lt (fun c1077 => ?_) (fun c1077 => ?_)
                    · refine g_aload_n rfl ?_
                      refine g_iload_n rfl ?_
                      refine g_pfi hIH1037 sm_0 rfl (gz_any _) (fun H1078 eH1078 hIH1078 => ?_)
                      have hJH1078 : JM H1078 := JM_sF eH1078 hJH1037
                      have e1079 : k0_2 = fZ H1078 0 2 := by rw [eH1078, fZ_sF_ne (by decide)]; exact e1046
                      have e1080 : v1076 = fZ H1078 0 43 := by rw [eH1078, fZ_sF_ne (by decide)]; exact ev1076
                      have e1081 : v1012 = fZ H1078 0 41 := by rw [eH1078, fZ_sF_eq hIH1037 sm_0 rfl]
                      have m1082 : kpM H H1078 := kpM_F m1047 eH1078 (by omega)
                      have jj1083_42 : (fZ H1078 0 42).toInt = (fZ H1037 0 42).toInt := by rw [eH1078, fZ_sF_ne (by decide)]
                      have ie1080 : v1076.toInt = (fZ H1078 0 43).toInt := by rw [← e1080]
                      have ie1081 : v1012.toInt = (fZ H1078 0 41).toInt := by rw [← e1081]
                      refine g_aload_n rfl ?_
                      refine g_iload_n rfl ?_
                      refine g_pfi hIH1078 sm_0 rfl (gz_any _) (fun H1084 eH1084 hIH1084 => ?_)
                      have hJH1084 : JM H1084 := JM_sF eH1084 hJH1078
                      have e1085 : k0_2 = fZ H1084 0 2 := by rw [eH1084, fZ_sF_ne (by decide)]; exact e1079
                      have e1086 : v1076 = fZ H1084 0 43 := by rw [eH1084, fZ_sF_ne (by decide)]; exact e1080
                      have e1087 : v1012 = fZ H1084 0 41 := by rw [eH1084, fZ_sF_ne (by decide)]; exact e1081
                      have e1088 : v1024 = fZ H1084 0 42 := by rw [eH1084, fZ_sF_eq hIH1078 sm_0 rfl]
                      have m1089 : kpM H H1084 := kpM_F m1082 eH1084 (by omega)
                      have ie1086 : v1076.toInt = (fZ H1084 0 43).toInt := by rw [← e1086]
                      have ie1087 : v1012.toInt = (fZ H1084 0 41).toInt := by rw [← e1087]
                      have ie1088 : v1024.toInt = (fZ H1084 0 42).toInt := by rw [← e1088]
                      refine g_aload_n rfl ?_
                      refine g_iload rfl ?_
                      refine g_pfi hIH1084 sm_0 rfl (gz_any _) (fun H1090 eH1090 hIH1090 => ?_)
                      have hJH1090 : JM H1090 := JM_sF eH1090 hJH1084
                      have e1091 : k0_2 = fZ H1090 0 2 := by rw [eH1090, fZ_sF_ne (by decide)]; exact e1085
                      have e1092 : v1012 = fZ H1090 0 41 := by rw [eH1090, fZ_sF_ne (by decide)]; exact e1087
                      have e1093 : v1024 = fZ H1090 0 42 := by rw [eH1090, fZ_sF_ne (by decide)]; exact e1088
                      have e1094 : v1052 = fZ H1090 0 43 := by rw [eH1090, fZ_sF_eq hIH1084 sm_0 rfl]
                      have m1095 : kpM H H1090 := kpM_F m1089 eH1090 (by omega)
                      have ie1092 : v1012.toInt = (fZ H1090 0 41).toInt := by rw [← e1092]
                      have ie1093 : v1024.toInt = (fZ H1090 0 42).toInt := by rw [← e1093]
                      have ie1094 : v1052.toInt = (fZ H1090 0 43).toInt := by rw [← e1094]
                      refine g_nop ?_
                      refine g_iinc (l' := (fun v1096 => [(0, .ref 0), (1, .int a1), (2, .int v1012), (3, .int v1096), (4, .int v1052)])) rfl rfl (by decide) (by omega) (fun _ => rfl) (fun v1096 ev1096 => ?_)
                      refine g_goto ?_
                      refine gG_pick [0, 1, 2, 3] (l' := [(0, .ref 0), (1, .int a1), (2, .int v1012), (3, .int v1096)]) rfl ?_
                      exact ihL1028 v1096 H1090 hIH1090 (JM_n hJH1090) e1091 m1095 (by omega) (bwt_y q1 (by omega) (by omega) (by omega) (by omega) (by omega) (by omega) (by omega)) (by omega) (by omega) (by omega)
                    · refine g_goto ?_
                      refine g_iinc (l' := (fun v1097 => [(0, .ref 0), (1, .int a1), (2, .int v1012), (3, .int v1097), (4, .int v1052)])) rfl rfl (by decide) (by omega) (fun _ => rfl) (fun v1097 ev1097 => ?_)
                      refine g_goto ?_
                      refine gG_pick [0, 1, 2, 3] (l' := [(0, .ref 0), (1, .int a1), (2, .int v1012), (3, .int v1097)]) rfl ?_
                      exact ihL1028 v1097 H1037 hIH1037 (JM_n hJH1037) e1046 m1047 (by omega) (bwt_n q1 (by omega) (by omega) (by omega) (by omega) (by omega) (by omega) (by omega)) (by omega) (by omega) (by omega)
        exact L1028 _ v1023 H1013 hIH1013 hJH1013 e1014 m1015 (by omega) (by rw [show v1023.toInt.toNat = v1012.toInt.toNat + 1 by omega]; exact q1) (by omega) (by omega) (Nat.lt_succ_self _)
  exact L1016 _ v1011 H1005 hIH1005 hJH1005 e1006 m1008 (by omega) (bwt_0 (by omega) (by omega) (by omega)) (by omega) (Nat.lt_succ_self _)
set_option maxRecDepth 4000 in
set_option maxHeartbeats 4000000 in
/-- M.twoBlamed -/
theorem r_228 {w : Nat → Nat → Int} (a1 : Int32) (H : mzH) (hI : gI SM H) (hJ : JN H) (hp0 : ((∀ A, tkQ H A → gdM A))) (hp1 : (∀ k : Nat, (k : Int) < (aZ H 2 2).toInt → 0 ≤ (aZ H 2 (69 + 5 * k)).toInt ∧ (aZ H 2 (69 + 5 * k)).toInt ≤ 999)) (hp2 : (∀ m i : Nat, m < i → (i : Int) < (aZ H 2 2).toInt → ∀ A : mzH, tkQ H A → (∀ q : Nat, (q : Int) < (aZ H 2 2).toInt → (inM A q ≠ 0 ↔ (¬ (q : Int) = (m : Int) ∧ ¬ (q : Int) = (i : Int))) ∧ hoM A q = (aZ H 2 (69 + 5 * q)).toInt) → ∀ G : mzH, clR (rgM G) (mdM G) → cnt (fun x => ¬ rvM A G x = 0) (cnM A) = w m i)) : gCall 228 [.ref 0, .int a1] H (gRi (fun v H' => gI SM H' ∧ JN H' ∧ fZ H' 0 2 = fZ H 0 2 ∧ kpM H H' ∧ ((v.toInt = -1 ∧ ¬ (0 ≤ a1.toInt ∧ a1.toInt ≤ 2)) ∨ ((0 ≤ a1.toInt ∧ a1.toInt ≤ 2) ∧ bwV w (aZ H 2 2).toInt.toNat a1.toInt v.toInt)))) := by
  obtain ⟨k0_2, ek0_2⟩ : ∃ z, z = fZ H 0 2 := ⟨_, rfl⟩
  have ik0_2 : k0_2.toInt = (fZ H 0 2).toInt := by rw [← ek0_2]
  have bk0_2 : 0 ≤ k0_2.toInt ∧ k0_2.toInt ≤ 900 := by rw [ek0_2]; exact fZ_of hI sm_0 rfl
  have mkfr : kpM H H := kpM_r
  refine gG_call [(0, .ref 0), (1, .int a1)] ⟨rfl, rfl, trivial⟩ ?_
  show gG 2 zB_228 (mzBlk zB_228 0) [(0, .ref 0), (1, .int a1)] [] H 0 0 _
  refine g_aload_n rfl ?_
  refine g_iconst (by decide) (fun v117 kv117 => ?_)
  refine g_pfi hI sm_0 rfl (gz_any _) (fun H118 eH118 hIH118 => ?_)
  have hJH118 : JN H118 := JN_sF eH118 hJ
  have e119 : k0_2 = fZ H118 0 2 := by rw [eH118, fZ_sF_ne (by decide)]; exact ek0_2
  have m120 : kpM H H118 := kpM_F mkfr eH118 (by omega)
  have jj121_41 : (fZ H118 0 41).toInt = (fZ H 0 41).toInt := by rw [eH118, fZ_sF_ne (by decide)]
  have jj122_42 : (fZ H118 0 42).toInt = (fZ H 0 42).toInt := by rw [eH118, fZ_sF_ne (by decide)]
  have jj123_43 : (fZ H118 0 43).toInt = (fZ H 0 43).toInt := by rw [eH118, fZ_sF_ne (by decide)]
  refine g_iload_n rfl ?_
  refine g_if_lt (fun c124 => ?_) (fun c124 => ?_)
  · refine g_iconst (by decide) (fun v125 kv125 => ?_)
    exact g_iret ⟨_, rfl, hIH118, hJH118, (e119.symm.trans ek0_2), m120, (Or.inl ⟨by omega, by omega⟩)⟩
  · refine g_iload_n rfl ?_
    refine g_iconst (by decide) (fun v126 kv126 => ?_)
    refine g_if2_le (fun c127 => ?_) (fun c127 => ?_)
    · refine g_aload_n rfl ?_
      refine g_iconst (by decide) (fun v128 kv128 => ?_)
      refine g_invvv hIH118 sm_0 rfl rfl rfl rfl (q_226 v128 (by omega) H118 hIH118 hJH118 (fun A t => hp0 A (tkQ_kp m120 t)) (hr_kp m120 hp1) (pb2_kp m120 hp2)) (fun H129 r130 => ?_)
      obtain ⟨hIH129, hJH129, w131, m132, p133⟩ := r130
      have e134 : k0_2 = fZ H129 0 2 := e119.trans w131.symm
      have m135 : kpM H H129 := kpM_t m120 m132
      have bw := p133
      rw [m120.1 2 (by decide)] at bw
      refine g_aload_n rfl ?_
      refine g_gfi hIH129 sm_0 rfl (fun v136 ev136 lv136 uv136 => ?_)
      have iev136 : v136.toInt = (fZ H129 0 41).toInt := by rw [← ev136]
      refine g_iconst (by decide) (fun v137 kv137 => ?_)
      refine g_if2_ne (fun c138 => ?_) (fun c138 => ?_)
      · refine g_iload_n rfl ?_
        refine g_if_ne (fun c139 => ?_) (fun c139 => ?_)
        · refine g_iload_n rfl ?_
          refine g_iconst (by decide) (fun v140 kv140 => ?_)
          refine g_if2_ne (fun c141 => ?_) (fun c141 => ?_)
          · refine g_aload_n rfl ?_
            refine g_gfi hIH129 sm_0 rfl (fun v142 ev142 lv142 uv142 => ?_)
            have iev142 : v142.toInt = (fZ H129 0 43).toInt := by rw [← ev142]
            refine g_nop ?_
            exact g_iret ⟨_, rfl, hIH129, hJH129, (e134.symm.trans ek0_2), m135, (Or.inr ⟨by omega, _, _, _, bw, Or.inr ⟨by omega, by rw [if_neg (by omega), if_neg (by omega)]; omega⟩⟩)⟩
          · refine g_aload_n rfl ?_
            refine g_gfi hIH129 sm_0 rfl (fun v143 ev143 lv143 uv143 => ?_)
            have iev143 : v143.toInt = (fZ H129 0 42).toInt := by rw [← ev143]
            refine g_goto ?_
            exact g_iret ⟨_, rfl, hIH129, hJH129, (e134.symm.trans ek0_2), m135, (Or.inr ⟨by omega, _, _, _, bw, Or.inr ⟨by omega, by rw [if_neg (by omega), if_pos (by omega)]; omega⟩⟩)⟩
        · refine g_aload_n rfl ?_
          refine g_gfk hIH129 sm_0 rfl ev136 ?_
          refine g_goto ?_
          exact g_iret ⟨_, rfl, hIH129, hJH129, (e134.symm.trans ek0_2), m135, (Or.inr ⟨by omega, _, _, _, bw, Or.inr ⟨by omega, by rw [if_pos (by omega)]; omega⟩⟩)⟩
      · refine g_bipush (by decide) (fun v144 kv144 => ?_)
        refine g_goto ?_
        exact g_iret ⟨_, rfl, hIH129, hJH129, (e134.symm.trans ek0_2), m135, (Or.inr ⟨by omega, _, _, _, bw, Or.inl ⟨by omega, by omega⟩⟩)⟩
    · refine g_nop ?_
      refine g_iconst (by decide) (fun v145 kv145 => ?_)
      exact g_iret ⟨_, rfl, hIH118, hJH118, (e119.symm.trans ek0_2), m120, (Or.inl ⟨by omega, by omega⟩)⟩
