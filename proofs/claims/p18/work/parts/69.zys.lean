/-! THE REFERENCE'S TWO TO BLAME -/
/-- of the pairs ahead of (p, q): the first of those at which w is least -/
def bwT (w : Nat → Nat → Int) (N p q : Nat) (o1 o2 l : Int) : Prop := ((∀ u v, u < v → v < N → ¬ prP p q u v) ∧ o1 = -1) ∨ (∃ x y : Nat, x < y ∧ y < N ∧ prP p q x y ∧ o1 = (x : Int) ∧ o2 = (y : Int) ∧ l = w x y ∧ ∀ u v, u < v → v < N → prP p q u v → w x y < w u v ∨ (w x y = w u v ∧ (x < u ∨ (x = u ∧ y ≤ v))))
def bwV (w : Nat → Nat → Int) (N : Nat) (k v : Int) : Prop := ∃ o1 o2 l, bwT w N N (N + 1) o1 o2 l ∧ ((o1 = -1 ∧ v = -2) ∨ (¬ o1 = -1 ∧ v = if k = 0 then o1 else if k = 1 then o2 else l))
theorem bwt_0 {w : Nat → Nat → Int} {N p q : Nat} {o1 o2 l : Int} (hp : p = 0) (hq : q = p + 1) (h : o1 = -1) : bwT w N p q o1 o2 l := by
  subst hp hq
  exact Or.inl ⟨fun u v h1 h2 z => by
    unfold prP at z
    omega, h⟩
theorem bwt_e {w : Nat → Nat → Int} {N p : Nat} {o1 o2 l : Int} (h : bwT w N p (p + 1) o1 o2 l) (e : p = N) : bwT w N N (N + 1) o1 o2 l := by
  subst e
  exact h
theorem bwt_r {w : Nat → Nat → Int} {N p q p2 q2 : Nat} {o1 o2 l : Int} (h : bwT w N p q o1 o2 l) (hq : N ≤ q) (hp : p2 = p + 1) (hq2 : q2 = p2 + 1) : bwT w N p2 q2 o1 o2 l := by
  subst hp hq2
  have e : ∀ u v, u < v → v < N → (prP (p + 1) (p + 1 + 1) u v → prP p q u v) := fun u v h1 h2 z => by
    unfold prP at *
    omega
  rcases h with ⟨a, b⟩ | ⟨x, y, h1, h2, h0, h3, h4, h5, h6⟩
  · exact Or.inl ⟨fun u v u1 u2 z => a u v u1 u2 (e u v u1 u2 z), b⟩
  · exact Or.inr ⟨x, y, h1, h2, by
      unfold prP at *
      omega, h3, h4, h5, fun u v u1 u2 z => h6 u v u1 u2 (e u v u1 u2 z)⟩
theorem bwt_y {w : Nat → Nat → Int} {N p q q2 : Nat} {o1 o2 l a b c : Int} (h : bwT w N p q o1 o2 l) (e : q2 = q + 1) (cc : o1 = -1 ∨ w p q < l) (hp : p < q) (hq : q < N) (ha : a = (p : Int)) (hb : b = (q : Int)) (hc : c = w p q) : bwT w N p q2 a b c := by
  subst e ha hb hc
  refine Or.inr ⟨p, q, hp, hq, Or.inr ⟨rfl, Nat.lt_succ_self _⟩, rfl, rfl, rfl, fun u v u1 u2 z => ?_⟩
  if d : u = p ∧ v = q then
    obtain ⟨rfl, rfl⟩ := d
    exact Or.inr ⟨rfl, Or.inr ⟨rfl, Nat.le_refl _⟩⟩
  else
    have z2 : prP p q u v := by
      unfold prP at *
      omega
    rcases h with ⟨h1, _⟩ | ⟨x, y, _, _, _, h3, h4, h5, h6⟩
    · exact absurd z2 (h1 u v u1 u2)
    · left
      have k := h6 u v u1 u2 z2
      omega
theorem bwt_n {w : Nat → Nat → Int} {N p q q2 : Nat} {o1 o2 l a b c : Int} (h : bwT w N p q o1 o2 l) (e : q2 = q + 1) (cc : ¬ (o1 = -1 ∨ w p q < l)) (hp : p < q) (hq : q < N) (ha : a = o1) (hb : b = o2) (hc : c = l) : bwT w N p q2 a b c := by
  subst e ha hb hc
  rcases h with ⟨_, h2⟩ | ⟨x, y, h1, h2, h0, h3, h4, h5, h6⟩
  · exact absurd (Or.inl h2) cc
  · refine Or.inr ⟨x, y, h1, h2, by
      unfold prP at *
      omega, h3, h4, h5, fun u v u1 u2 z => ?_⟩
    if d : u = p ∧ v = q then
      obtain ⟨rfl, rfl⟩ := d
      unfold prP at h0
      omega
    else exact h6 u v u1 u2 (by
      unfold prP at *
      omega)
theorem pb2_kp {H B : mzH} {w : Nat → Nat → Int} (k : kpM H B) (h : (∀ m i : Nat, m < i → (i : Int) < (aZ H 2 2).toInt → ∀ A : mzH, tkQ H A → (∀ q : Nat, (q : Int) < (aZ H 2 2).toInt → (inM A q ≠ 0 ↔ (¬ (q : Int) = (m : Int) ∧ ¬ (q : Int) = (i : Int))) ∧ hoM A q = (aZ H 2 (69 + 5 * q)).toInt) → ∀ G : mzH, clR (rgM G) (mdM G) → cnt (fun x => ¬ rvM A G x = 0) (cnM A) = w m i)) : (∀ m i : Nat, m < i → (i : Int) < (aZ B 2 2).toInt → ∀ A : mzH, tkQ B A → (∀ q : Nat, (q : Int) < (aZ B 2 2).toInt → (inM A q ≠ 0 ↔ (¬ (q : Int) = (m : Int) ∧ ¬ (q : Int) = (i : Int))) ∧ hoM A q = (aZ B 2 (69 + 5 * q)).toInt) → ∀ G : mzH, clR (rgM G) (mdM G) → cnt (fun x => ¬ rvM A G x = 0) (cnM A) = w m i) := fun m i hmi hi A t sb G cG => by
  rw [k.1 2 (by decide)] at hi
  refine h m i hmi hi A (tkQ_kp k t) (sb_kp k sb) G cG
set_option maxRecDepth 4000 in
set_option maxHeartbeats 4000000 in
/-- M.blames -/
theorem q_226 {w : Nat → Nat → Int} (a1 : Int32) (ha1 : 1 ≤ a1.toInt ∧ a1.toInt ≤ 1) (H : mzH) (hI : gI SM H) (hJ : JN H) (hp0 : ((∀ A, tkQ H A → gdM A))) (hp1 : (∀ k : Nat, (k : Int) < (aZ H 2 2).toInt → 0 ≤ (aZ H 2 (69 + 5 * k)).toInt ∧ (aZ H 2 (69 + 5 * k)).toInt ≤ 999)) (hp2 : (∀ m i : Nat, m < i → (i : Int) < (aZ H 2 2).toInt → ∀ A : mzH, tkQ H A → (∀ q : Nat, (q : Int) < (aZ H 2 2).toInt → (inM A q ≠ 0 ↔ (¬ (q : Int) = (m : Int) ∧ ¬ (q : Int) = (i : Int))) ∧ hoM A q = (aZ H 2 (69 + 5 * q)).toInt) → ∀ G : mzH, clR (rgM G) (mdM G) → cnt (fun x => ¬ rvM A G x = 0) (cnM A) = w m i)) : gCall 226 [.ref 0, .int a1] H (gRv (fun H' => gI SM H' ∧ JN H' ∧ fZ H' 0 2 = fZ H 0 2 ∧ kpM H H' ∧ bwT w (aZ H 2 2).toInt.toNat (aZ H 2 2).toInt.toNat ((aZ H 2 2).toInt.toNat + 1) (fZ H' 0 41).toInt (fZ H' 0 42).toInt (fZ H' 0 43).toInt)) := by
  obtain ⟨k0_2, ek0_2⟩ : ∃ z, z = fZ H 0 2 := ⟨_, rfl⟩
  have ik0_2 : k0_2.toInt = (fZ H 0 2).toInt := by rw [← ek0_2]
  have bk0_2 : 0 ≤ k0_2.toInt ∧ k0_2.toInt ≤ 900 := by rw [ek0_2]; exact fZ_of hI sm_0 rfl
  have mkfr : kpM H H := kpM_r
  refine gG_call [(0, .ref 0), (1, .int a1)] ⟨rfl, rfl, trivial⟩ ?_
  show gG 5 zB_226 (mzBlk zB_226 0) [(0, .ref 0), (1, .int a1)] [] H 0 0 _
  refine g_aload_n rfl ?_
  refine g_iconst (by decide) (fun v991 kv991 => ?_)
  refine g_pfi hI sm_0 rfl (gz_any _) (fun H992 eH992 hIH992 => ?_)
  have hJH992 : JN H992 := JN_sF eH992 hJ
  have e993 : k0_2 = fZ H992 0 2 := by rw [eH992, fZ_sF_ne (by decide)]; exact ek0_2
  have e994 : v991 = fZ H992 0 41 := by rw [eH992, fZ_sF_eq hI sm_0 rfl]
  have m995 : kpM H H992 := kpM_F mkfr eH992 (by omega)
  have jj996_42 : (fZ H992 0 42).toInt = (fZ H 0 42).toInt := by rw [eH992, fZ_sF_ne (by decide)]
  have jj997_43 : (fZ H992 0 43).toInt = (fZ H 0 43).toInt := by rw [eH992, fZ_sF_ne (by decide)]
  have ie994 : v991.toInt = (fZ H992 0 41).toInt := by rw [← e994]
  refine g_iconst (by decide) (fun v998 kv998 => ?_)
  refine g_istore_n (l' := [(0, .ref 0), (1, .int a1), (2, .int v998)]) rfl rfl ?_
  refine g_nop ?_
  have L1003 : ∀ (N : Nat) (v999 : Int32) (H1000 : mzH), gI SM H1000 → JN H1000 → k0_2 = fZ H1000 0 2 → kpM H H1000 → (0 ≤ v999.toInt ∧ v999.toInt ≤ 60) → bwT w (aZ H 2 2).toInt.toNat v999.toInt.toNat (v999.toInt.toNat + 1) (fZ H1000 0 41).toInt (fZ H1000 0 42).toInt (fZ H1000 0 43).toInt → (v999.toInt ≤ 0 ∨ v999.toInt ≤ (aZ H 2 2).toInt) → (60 - v999.toInt).toNat < N → gG 5 zB_226 (mzBlk zB_226 1) [(0, .ref 0), (1, .int a1), (2, .int v999)] [] H1000 0 0 (gRv (fun H' => gI SM H' ∧ JN H' ∧ fZ H' 0 2 = fZ H 0 2 ∧ kpM H H' ∧ bwT w (aZ H 2 2).toInt.toNat (aZ H 2 2).toInt.toNat ((aZ H 2 2).toInt.toNat + 1) (fZ H' 0 41).toInt (fZ H' 0 42).toInt (fZ H' 0 43).toInt)) := by
    intro N
    induction N with
    | zero => intro v999 H1000 hIH1000 hJH1000 e1001 m1002 bv999 q1 q2 hmL1003; exact absurd hmL1003 (Nat.not_lt_zero _)
    | succ N ihL1003 =>
      intro v999 H1000 hIH1000 hJH1000 e1001 m1002 bv999 q1 q2 hmL1003
      refine g_iload_n rfl ?_
      refine g_aload_n rfl ?_
      refine g_invvi hIH1000 sm_0 rfl rfl rfl rfl (s_180 H1000 hIH1000 hJH1000) (fun v1006 H1004 r1005 => ?_)
      obtain ⟨rfl, bv1006, p1007⟩ := r1005
      have hm2 := congrArg Int32.toInt (m1002.1 2 (by decide) 2)
      refine g_if2_ge (fun c1008 => ?_) (fun c1008 => ?_)
      · exact g_ret ⟨rfl, hIH1000, hJH1000, (e1001.symm.trans ek0_2), m1002, (bwt_e q1 (by omega))⟩
      · refine g_iload_n rfl ?_
        refine g_iconst (by decide) (fun v1009 kv1009 => ?_)
        refine g_iadd (by omega) (fun v1010 ev1010 => ?_)
        refine g_istore_n (l' := [(0, .ref 0), (1, .int a1), (2, .int v999), (3, .int v1010)]) rfl rfl ?_
        refine g_nop ?_
        have L1015 : ∀ (N : Nat) (v1011 : Int32) (H1012 : mzH), gI SM H1012 → JN H1012 → k0_2 = fZ H1012 0 2 → kpM H H1012 → (1 ≤ v1011.toInt ∧ v1011.toInt ≤ 60) → bwT w (aZ H 2 2).toInt.toNat v999.toInt.toNat v1011.toInt.toNat (fZ H1012 0 41).toInt (fZ H1012 0 42).toInt (fZ H1012 0 43).toInt → (v999.toInt + 1 ≤ v1011.toInt ∧ v1011.toInt ≤ (aZ H 2 2).toInt) → (v999.toInt < (aZ H 2 2).toInt) → (60 - v1011.toInt).toNat < N → gG 5 zB_226 (mzBlk zB_226 2) [(0, .ref 0), (1, .int a1), (2, .int v999), (3, .int v1011)] [] H1012 0 0 (gRv (fun H' => gI SM H' ∧ JN H' ∧ fZ H' 0 2 = fZ H 0 2 ∧ kpM H H' ∧ bwT w (aZ H 2 2).toInt.toNat (aZ H 2 2).toInt.toNat ((aZ H 2 2).toInt.toNat + 1) (fZ H' 0 41).toInt (fZ H' 0 42).toInt (fZ H' 0 43).toInt)) := by
          intro N
          induction N with
          | zero => intro v1011 H1012 hIH1012 hJH1012 e1013 m1014 bv1011 q1 q4 q5 hmL1015; exact absurd hmL1015 (Nat.not_lt_zero _)
          | succ N ihL1015 =>
            intro v1011 H1012 hIH1012 hJH1012 e1013 m1014 bv1011 q1 q4 q5 hmL1015
            refine g_iload_n rfl ?_
            refine g_iload_n rfl ?_
            refine g_if_eq (fun c1016 => ?_) (fun c1016 => ?_)
            · exfalso; omega
            · refine g_aload_n rfl ?_
              refine g_invvi hIH1012 sm_0 rfl rfl rfl rfl (s_180 H1012 hIH1012 hJH1012) (fun v1019 H1017 r1018 => ?_)
              obtain ⟨rfl, bv1019, p1020⟩ := r1018
              have hm2 := congrArg Int32.toInt (m1014.1 2 (by decide) 2)
              refine g_goto ?_
              refine g_if2_ge (fun c1021 => ?_) (fun c1021 => ?_)
              · refine g_iinc (l' := (fun v1022 => [(0, .ref 0), (1, .int a1), (2, .int v1022), (3, .int v1011)])) rfl rfl (by decide) (by omega) (fun _ => rfl) (fun v1022 ev1022 => ?_)
                refine g_goto ?_
                refine gG_pick [0, 1, 2] (l' := [(0, .ref 0), (1, .int a1), (2, .int v1022)]) rfl ?_
                exact ihL1003 v1022 H1012 hIH1012 hJH1012 e1013 m1014 (by omega) (bwt_r q1 (by omega) (by omega) rfl) (by omega) (by omega)
              · refine g_aload_n rfl ?_
                refine g_iload_n rfl ?_
                refine g_iload_n rfl ?_
                refine g_if_eq (fun c1023 => ?_) (fun c1023 => ?_)
                · exfalso; omega
                · refine g_iload_n rfl ?_
                  refine g_goto ?_
                  refine g_invvv hIH1012 sm_0 rfl rfl rfl rfl (r_222 v999 (by omega) v1011 (by omega) H1012 hIH1012 hJH1012 (fun A t => hp0 A (tkQ_kp m1014 t)) (hr_kp m1014 hp1)) (fun H1024 r1025 => ?_)
                  obtain ⟨hIH1024, hJH1024, w1026, w1027, w1028, w1029, m1030, p1031⟩ := r1025
                  have e1032 : k0_2 = fZ H1024 0 2 := e1013.trans w1026.symm
                  have iw1027 : (fZ H1024 0 41).toInt = (fZ H1012 0 41).toInt := by rw [w1027]
                  have iw1028 : (fZ H1024 0 42).toInt = (fZ H1012 0 42).toInt := by rw [w1028]
                  have iw1029 : (fZ H1024 0 43).toInt = (fZ H1012 0 43).toInt := by rw [w1029]
                  have m1033 : kpM H H1024 := kpM_t m1014 m1030
                  obtain ⟨A1034, ttA1034, sbA1034, G1035, clG1035, wdA1034, wyA1034, oiA1034⟩ := p1031
                  have uA1034 : tkQ H A1034 := tkQ_kp m1014 ttA1034
                  have sdA1034 := sb_kp m1014 sbA1034
                  have pbA1034 := hp2 v999.toInt.toNat v1011.toInt.toNat (by omega) (by omega) A1034 uA1034 (fun q hq => by have z := sdA1034 q hq; rw [show ((v999.toInt.toNat : Nat) : Int) = v999.toInt by omega, show ((v1011.toInt.toNat : Nat) : Int) = v1011.toInt by omega]; exact z) G1035 clG1035
                  refine g_aload_n rfl ?_
                  refine g_invvi hIH1024 sm_0 rfl rfl rfl rfl (r_224 H1024 hIH1024 (JM_n hJH1024) oiA1034 wyA1034) (fun v1038 H1036 r1037 => ?_)
                  obtain ⟨rfl, p1039⟩ := r1037
                  have yv1038 : v1038.toInt = w v999.toInt.toNat v1011.toInt.toNat := p1039.trans pbA1034
                  refine g_istore (l' := [(0, .ref 0), (1, .int a1), (2, .int v999), (3, .int v1011), (4, .int v1038)]) rfl rfl ?_
                  refine g_aload_n rfl ?_
                  refine g_gfi hIH1024 sm_0 rfl (fun v1040 ev1040 lv1040 uv1040 => ?_)
                  have iev1040 : v1040.toInt = (fZ H1024 0 41).toInt := by rw [← ev1040]
                  refine g_iconst (by decide) (fun v1041 kv1041 => ?_)
                  refine g_if2_eq (fun c1042 => ?_) (fun c1042 => ?_)
                  · refine g_aload_n rfl ?_
                    refine g_iload_n rfl ?_
                    refine g_pfi hIH1024 sm_0 rfl (gz_any _) (fun H1043 eH1043 hIH1043 => ?_)
                    have hJH1043 : JM H1043 := JM_sF eH1043 hJH1024
                    have e1044 : k0_2 = fZ H1043 0 2 := by rw [eH1043, fZ_sF_ne (by decide)]; exact e1032
                    have e1045 : v999 = fZ H1043 0 41 := by rw [eH1043, fZ_sF_eq hIH1024 sm_0 rfl]
                    have m1046 : kpM H H1043 := kpM_F m1033 eH1043 (by omega)
                    have jj1047_42 : (fZ H1043 0 42).toInt = (fZ H1024 0 42).toInt := by rw [eH1043, fZ_sF_ne (by decide)]
                    have jj1048_43 : (fZ H1043 0 43).toInt = (fZ H1024 0 43).toInt := by rw [eH1043, fZ_sF_ne (by decide)]
                    have ie1045 : v999.toInt = (fZ H1043 0 41).toInt := by rw [← e1045]
                    refine g_aload_n rfl ?_
                    refine g_iload_n rfl ?_
                    refine g_pfi hIH1043 sm_0 rfl (gz_any _) (fun H1049 eH1049 hIH1049 => ?_)
                    have hJH1049 : JM H1049 := JM_sF eH1049 hJH1043
                    have e1050 : k0_2 = fZ H1049 0 2 := by rw [eH1049, fZ_sF_ne (by decide)]; exact e1044
                    have e1051 : v999 = fZ H1049 0 41 := by rw [eH1049, fZ_sF_ne (by decide)]; exact e1045
                    have e1052 : v1011 = fZ H1049 0 42 := by rw [eH1049, fZ_sF_eq hIH1043 sm_0 rfl]
                    have m1053 : kpM H H1049 := kpM_F m1046 eH1049 (by omega)
                    have jj1054_43 : (fZ H1049 0 43).toInt = (fZ H1043 0 43).toInt := by rw [eH1049, fZ_sF_ne (by decide)]
                    have ie1051 : v999.toInt = (fZ H1049 0 41).toInt := by rw [← e1051]
                    have ie1052 : v1011.toInt = (fZ H1049 0 42).toInt := by rw [← e1052]
                    refine g_aload_n rfl ?_
                    refine g_iload rfl ?_
                    refine g_pfi hIH1049 sm_0 rfl (gz_any _) (fun H1055 eH1055 hIH1055 => ?_)
                    have hJH1055 : JM H1055 := JM_sF eH1055 hJH1049
                    have e1056 : k0_2 = fZ H1055 0 2 := by rw [eH1055, fZ_sF_ne (by decide)]; exact e1050
                    have e1057 : v999 = fZ H1055 0 41 := by rw [eH1055, fZ_sF_ne (by decide)]; exact e1051
                    have e1058 : v1011 = fZ H1055 0 42 := by rw [eH1055, fZ_sF_ne (by decide)]; exact e1052
                    have e1059 : v1038 = fZ H1055 0 43 := by rw [eH1055, fZ_sF_eq hIH1049 sm_0 rfl]
                    have m1060 : kpM H H1055 := kpM_F m1053 eH1055 (by omega)
                    have ie1057 : v999.toInt = (fZ H1055 0 41).toInt := by rw [← e1057]
                    have ie1058 : v1011.toInt = (fZ H1055 0 42).toInt := by rw [← e1058]
                    have ie1059 : v1038.toInt = (fZ H1055 0 43).toInt := by rw [← e1059]
                    refine g_nop ?_
                    refine g_iinc (l' := (fun v1061 => [(0, .ref 0), (1, .int a1), (2, .int v999), (3, .int v1061), (4, .int v1038)])) rfl rfl (by decide) (by omega) (fun _ => rfl) (fun v1061 ev1061 => ?_)
                    refine g_goto ?_
                    refine gG_pick [0, 1, 2, 3] (l' := [(0, .ref 0), (1, .int a1), (2, .int v999), (3, .int v1061)]) rfl ?_
                    exact ihL1015 v1061 H1055 hIH1055 (JM_n hJH1055) e1056 m1060 (by omega) (bwt_y q1 (by omega) (by omega) (by omega) (by omega) (by omega) (by omega) (by omega)) (by omega) (by omega) (by omega)
                  · refine g_iload rfl ?_
                    refine g_aload_n rfl ?_
                    refine g_gfi hIH1024 sm_0 rfl (fun v1062 ev1062 lv1062 uv1062 => ?_)
                    have iev1062 : v1062.toInt = (fZ H1024 0 43).toInt := by rw [← ev1062]
                    refine g_if2_lt (fun c1063 => ?_) (fun c1063 => ?_)
                    · refine g_aload_n rfl ?_
                      refine g_iload_n rfl ?_
                      refine g_pfi hIH1024 sm_0 rfl (gz_any _) (fun H1064 eH1064 hIH1064 => ?_)
                      have hJH1064 : JM H1064 := JM_sF eH1064 hJH1024
                      have e1065 : k0_2 = fZ H1064 0 2 := by rw [eH1064, fZ_sF_ne (by decide)]; exact e1032
                      have e1066 : v1062 = fZ H1064 0 43 := by rw [eH1064, fZ_sF_ne (by decide)]; exact ev1062
                      have e1067 : v999 = fZ H1064 0 41 := by rw [eH1064, fZ_sF_eq hIH1024 sm_0 rfl]
                      have m1068 : kpM H H1064 := kpM_F m1033 eH1064 (by omega)
                      have jj1069_42 : (fZ H1064 0 42).toInt = (fZ H1024 0 42).toInt := by rw [eH1064, fZ_sF_ne (by decide)]
                      have ie1066 : v1062.toInt = (fZ H1064 0 43).toInt := by rw [← e1066]
                      have ie1067 : v999.toInt = (fZ H1064 0 41).toInt := by rw [← e1067]
                      refine g_aload_n rfl ?_
                      refine g_iload_n rfl ?_
                      refine g_pfi hIH1064 sm_0 rfl (gz_any _) (fun H1070 eH1070 hIH1070 => ?_)
                      have hJH1070 : JM H1070 := JM_sF eH1070 hJH1064
                      have e1071 : k0_2 = fZ H1070 0 2 := by rw [eH1070, fZ_sF_ne (by decide)]; exact e1065
                      have e1072 : v1062 = fZ H1070 0 43 := by rw [eH1070, fZ_sF_ne (by decide)]; exact e1066
                      have e1073 : v999 = fZ H1070 0 41 := by rw [eH1070, fZ_sF_ne (by decide)]; exact e1067
                      have e1074 : v1011 = fZ H1070 0 42 := by rw [eH1070, fZ_sF_eq hIH1064 sm_0 rfl]
                      have m1075 : kpM H H1070 := kpM_F m1068 eH1070 (by omega)
                      have ie1072 : v1062.toInt = (fZ H1070 0 43).toInt := by rw [← e1072]
                      have ie1073 : v999.toInt = (fZ H1070 0 41).toInt := by rw [← e1073]
                      have ie1074 : v1011.toInt = (fZ H1070 0 42).toInt := by rw [← e1074]
                      refine g_aload_n rfl ?_
                      refine g_iload rfl ?_
                      refine g_pfi hIH1070 sm_0 rfl (gz_any _) (fun H1076 eH1076 hIH1076 => ?_)
                      have hJH1076 : JM H1076 := JM_sF eH1076 hJH1070
                      have e1077 : k0_2 = fZ H1076 0 2 := by rw [eH1076, fZ_sF_ne (by decide)]; exact e1071
                      have e1078 : v999 = fZ H1076 0 41 := by rw [eH1076, fZ_sF_ne (by decide)]; exact e1073
                      have e1079 : v1011 = fZ H1076 0 42 := by rw [eH1076, fZ_sF_ne (by decide)]; exact e1074
                      have e1080 : v1038 = fZ H1076 0 43 := by rw [eH1076, fZ_sF_eq hIH1070 sm_0 rfl]
                      have m1081 : kpM H H1076 := kpM_F m1075 eH1076 (by omega)
                      have ie1078 : v999.toInt = (fZ H1076 0 41).toInt := by rw [← e1078]
                      have ie1079 : v1011.toInt = (fZ H1076 0 42).toInt := by rw [← e1079]
                      have ie1080 : v1038.toInt = (fZ H1076 0 43).toInt := by rw [← e1080]
                      refine g_nop ?_
                      refine g_iinc (l' := (fun v1082 => [(0, .ref 0), (1, .int a1), (2, .int v999), (3, .int v1082), (4, .int v1038)])) rfl rfl (by decide) (by omega) (fun _ => rfl) (fun v1082 ev1082 => ?_)
                      refine g_goto ?_
                      refine gG_pick [0, 1, 2, 3] (l' := [(0, .ref 0), (1, .int a1), (2, .int v999), (3, .int v1082)]) rfl ?_
                      exact ihL1015 v1082 H1076 hIH1076 (JM_n hJH1076) e1077 m1081 (by omega) (bwt_y q1 (by omega) (by omega) (by omega) (by omega) (by omega) (by omega) (by omega)) (by omega) (by omega) (by omega)
                    · refine g_goto ?_
                      refine g_iinc (l' := (fun v1083 => [(0, .ref 0), (1, .int a1), (2, .int v999), (3, .int v1083), (4, .int v1038)])) rfl rfl (by decide) (by omega) (fun _ => rfl) (fun v1083 ev1083 => ?_)
                      refine g_goto ?_
                      refine gG_pick [0, 1, 2, 3] (l' := [(0, .ref 0), (1, .int a1), (2, .int v999), (3, .int v1083)]) rfl ?_
                      exact ihL1015 v1083 H1024 hIH1024 (JM_n hJH1024) e1032 m1033 (by omega) (bwt_n q1 (by omega) (by omega) (by omega) (by omega) (by omega) (by omega) (by omega)) (by omega) (by omega) (by omega)
        exact L1015 _ v1010 H1000 hIH1000 hJH1000 e1001 m1002 (by omega) (by rw [show v1010.toInt.toNat = v999.toInt.toNat + 1 by omega]; exact q1) (by omega) (by omega) (Nat.lt_succ_self _)
  exact L1003 _ v998 H992 hIH992 hJH992 e993 m995 (by omega) (bwt_0 (by omega) (by omega) (by omega)) (by omega) (Nat.lt_succ_self _)
set_option maxRecDepth 4000 in
set_option maxHeartbeats 4000000 in
/-- M.twoBlamed -/
theorem r_228 {w : Nat → Nat → Int} (a1 : Int32) (H : mzH) (hI : gI SM H) (hJ : JN H) (hp0 : ((∀ A, tkQ H A → gdM A))) (hp1 : (∀ k : Nat, (k : Int) < (aZ H 2 2).toInt → 0 ≤ (aZ H 2 (69 + 5 * k)).toInt ∧ (aZ H 2 (69 + 5 * k)).toInt ≤ 999)) (hp2 : (∀ m i : Nat, m < i → (i : Int) < (aZ H 2 2).toInt → ∀ A : mzH, tkQ H A → (∀ q : Nat, (q : Int) < (aZ H 2 2).toInt → (inM A q ≠ 0 ↔ (¬ (q : Int) = (m : Int) ∧ ¬ (q : Int) = (i : Int))) ∧ hoM A q = (aZ H 2 (69 + 5 * q)).toInt) → ∀ G : mzH, clR (rgM G) (mdM G) → cnt (fun x => ¬ rvM A G x = 0) (cnM A) = w m i)) : gCall 228 [.ref 0, .int a1] H (gRi (fun v H' => gI SM H' ∧ JN H' ∧ fZ H' 0 2 = fZ H 0 2 ∧ kpM H H' ∧ ((v.toInt = -1 ∧ ¬ (0 ≤ a1.toInt ∧ a1.toInt ≤ 2)) ∨ ((0 ≤ a1.toInt ∧ a1.toInt ≤ 2) ∧ bwV w (aZ H 2 2).toInt.toNat a1.toInt v.toInt)))) := by
  obtain ⟨k0_2, ek0_2⟩ : ∃ z, z = fZ H 0 2 := ⟨_, rfl⟩
  have ik0_2 : k0_2.toInt = (fZ H 0 2).toInt := by rw [← ek0_2]
  have bk0_2 : 0 ≤ k0_2.toInt ∧ k0_2.toInt ≤ 900 := by rw [ek0_2]; exact fZ_of hI sm_0 rfl
  have mkfr : kpM H H := kpM_r
  refine gG_call [(0, .ref 0), (1, .int a1)] ⟨rfl, rfl, trivial⟩ ?_
  show gG 2 zB_228 (mzBlk zB_228 0) [(0, .ref 0), (1, .int a1)] [] H 0 0 _
  refine g_aload_n rfl ?_
  refine g_iconst (by decide) (fun v117 kv117 => ?_)
  refine g_pfi hI sm_0 rfl (gz_any _) (fun H118 eH118 hIH118 => ?_)
  have hJH118 : JN H118 := JN_sF eH118 hJ
  have e119 : k0_2 = fZ H118 0 2 := by rw [eH118, fZ_sF_ne (by decide)]; exact ek0_2
  have m120 : kpM H H118 := kpM_F mkfr eH118 (by omega)
  have jj121_41 : (fZ H118 0 41).toInt = (fZ H 0 41).toInt := by rw [eH118, fZ_sF_ne (by decide)]
  have jj122_42 : (fZ H118 0 42).toInt = (fZ H 0 42).toInt := by rw [eH118, fZ_sF_ne (by decide)]
  have jj123_43 : (fZ H118 0 43).toInt = (fZ H 0 43).toInt := by rw [eH118, fZ_sF_ne (by decide)]
  refine g_iload_n rfl ?_
  refine g_if_lt (fun c124 => ?_) (fun c124 => ?_)
  · refine g_iconst (by decide) (fun v125 kv125 => ?_)
    exact g_iret ⟨_, rfl, hIH118, hJH118, (e119.symm.trans ek0_2), m120, (Or.inl ⟨by omega, by omega⟩)⟩
  · refine g_iload_n rfl ?_
    refine g_iconst (by decide) (fun v126 kv126 => ?_)
    refine g_if2_le (fun c127 => ?_) (fun c127 => ?_)
    · refine g_aload_n rfl ?_
      refine g_iconst (by decide) (fun v128 kv128 => ?_)
      refine g_invvv hIH118 sm_0 rfl rfl rfl rfl (q_226 v128 (by omega) H118 hIH118 hJH118 (fun A t => hp0 A (tkQ_kp m120 t)) (hr_kp m120 hp1) (pb2_kp m120 hp2)) (fun H129 r130 => ?_)
      obtain ⟨hIH129, hJH129, w131, m132, p133⟩ := r130
      have e134 : k0_2 = fZ H129 0 2 := e119.trans w131.symm
      have m135 : kpM H H129 := kpM_t m120 m132
      have bw := p133
      rw [m120.1 2 (by decide)] at bw
      refine g_aload_n rfl ?_
      refine g_gfi hIH129 sm_0 rfl (fun v136 ev136 lv136 uv136 => ?_)
      have iev136 : v136.toInt = (fZ H129 0 41).toInt := by rw [← ev136]
      refine g_iconst (by decide) (fun v137 kv137 => ?_)
      refine g_if2_ne (fun c138 => ?_) (fun c138 => ?_)
      · refine g_iload_n rfl ?_
        refine g_if_ne (fun c139 => ?_) (fun c139 => ?_)
        · refine g_iload_n rfl ?_
          refine g_iconst (by decide) (fun v140 kv140 => ?_)
          refine g_if2_ne (fun c141 => ?_) (fun c141 => ?_)
          · refine g_aload_n rfl ?_
            refine g_gfi hIH129 sm_0 rfl (fun v142 ev142 lv142 uv142 => ?_)
            have iev142 : v142.toInt = (fZ H129 0 43).toInt := by rw [← ev142]
            refine g_nop ?_
            exact g_iret ⟨_, rfl, hIH129, hJH129, (e134.symm.trans ek0_2), m135, (Or.inr ⟨by omega, _, _, _, bw, Or.inr ⟨by omega, by rw [if_neg (by omega), if_neg (by omega)]; omega⟩⟩)⟩
          · refine g_aload_n rfl ?_
            refine g_gfi hIH129 sm_0 rfl (fun v143 ev143 lv143 uv143 => ?_)
            have iev143 : v143.toInt = (fZ H129 0 42).toInt := by rw [← ev143]
            refine g_goto ?_
            exact g_iret ⟨_, rfl, hIH129, hJH129, (e134.symm.trans ek0_2), m135, (Or.inr ⟨by omega, _, _, _, bw, Or.inr ⟨by omega, by rw [if_neg (by omega), if_pos (by omega)]; omega⟩⟩)⟩
        · refine g_aload_n rfl ?_
          refine g_gfk hIH129 sm_0 rfl ev136 ?_
          refine g_goto ?_
          exact g_iret ⟨_, rfl, hIH129, hJH129, (e134.symm.trans ek0_2), m135, (Or.inr ⟨by omega, _, _, _, bw, Or.inr ⟨by omega, by rw [if_pos (by omega)]; omega⟩⟩)⟩
      · refine g_bipush (by decide) (fun v144 kv144 => ?_)
        refine g_goto ?_
        exact g_iret ⟨_, rfl, hIH129, hJH129, (e134.symm.trans ek0_2), m135, (Or.inr ⟨by omega, _, _, _, bw, Or.inl ⟨by omega, by omega⟩⟩)⟩
    · refine g_nop ?_
      refine g_iconst (by decide) (fun v145 kv145 => ?_)
      exact g_iret ⟨_, rfl, hIH118, hJH118, (e119.symm.trans ek0_2), m120, (Or.inl ⟨by omega, by omega⟩)⟩
