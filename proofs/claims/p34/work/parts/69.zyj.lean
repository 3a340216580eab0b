/-! THE REFERENCE RUNS ALL -/
theorem ra_all {A H2 : mzH} (hg : gdM A) (h : ∃ G : mzH, clR (rgM G) (mdM G) ∧ ∃ p : Nat, rwX H2 (fM A G p).1 (fM A G p).2 ∧ stM A 999 p ∧ (∀ x : Nat, x < p → (aZ H2 20 (odM A x)).toInt = rvM A G x) ∧ odI H2 A (aZ A 2 2).toInt.toNat) : ∃ G : mzH, clR (rgM G) (mdM G) ∧ rwX H2 (fM A G (cnM A)).1 (fM A G (cnM A)).2 ∧ (∀ x : Nat, x < cnM A → (aZ H2 20 (odM A x)).toInt = rvM A G x) ∧ odI H2 A (aZ A 2 2).toInt.toNat := by
  obtain ⟨G, h1, p, h2, h3, h4, h5⟩ := h
  obtain rfl := st_all hg h3
  exact ⟨G, h1, h2, h4, h5⟩
theorem rm_t {H A B : mzH} {v : Int} {i : Nat} {x : Int32} {n : Nat} (t : tkW H A) (fr : kpM H B) (e : v = (aZ B 2 (69 + 5 * x.toInt + i).toNat).toInt) (z : x.toInt.toNat = n) (h : 0 ≤ x.toInt) : v = roM A n i := by
  rw [e, fr.1 2 (by decide), ← t.2.1]
  show _ = (aZ A 2 (69 + 5 * n + i)).toInt
  rw [show (69 + 5 * x.toInt + (i : Int)).toNat = 69 + 5 * n + i by omega]
set_option maxRecDepth 4000 in
set_option maxHeartbeats 4000000 in
/-- M.runsAll -/
theorem r_199 (H : mzH) (hI : gI SM H) (hJ : JN H) (hp0 : ((∀ A, tkW H A → gdM A))) : gCall 199 [.ref 0] H (gRv (fun H' => gI SM H' ∧ JM H' ∧ fZ H' 0 2 = fZ H 0 2 ∧ (∀ i, aZ H' 2 i = aZ H 2 i) ∧ kpM H H' ∧ (∀ q : Nat, (q : Int) < (aZ H' 2 2).toInt → ∃ p : Nat, p < 60 ∧ (aZ H' 19 p).toInt = q) ∧ (∃ A : mzH, tkW H A ∧ ∃ G : mzH, clR (rgM G) (mdM G) ∧ rwX H' (fM A G (cnM A)).1 (fM A G (cnM A)).2 ∧ (∀ x : Nat, x < cnM A → (aZ H' 20 (odM A x)).toInt = rvM A G x) ∧ odI H' A (aZ A 2 2).toInt.toNat))) := by
  obtain ⟨k0_2, ek0_2⟩ : ∃ z, z = fZ H 0 2 := ⟨_, rfl⟩
  have ik0_2 : k0_2.toInt = (fZ H 0 2).toInt := by rw [← ek0_2]
  have bk0_2 : 0 ≤ k0_2.toInt ∧ k0_2.toInt ≤ 900 := by rw [ek0_2]; exact fZ_of hI sm_0 rfl
  have mk2 : ∀ i, aZ H 2 i = aZ H 2 i := fun _ => rfl
  have mkfr : kpM H H := kpM_r
  refine gG_call [(0, .ref 0)] ⟨rfl, trivial⟩ ?_
  show gG 1 zB_199 (mzBlk zB_199 0) [(0, .ref 0)] [] H 0 0 _
  refine g_aload_n rfl ?_
  refine g_invvv hI sm_0 rfl rfl rfl rfl (r_182 H hI hJ) (fun H113 r114 => ?_)
  obtain ⟨hIH113, hJH113, m115, m116, m117, m118, p119, p120⟩ := r114
  have e121 : k0_2 = fZ H113 0 2 := ek0_2.trans (m115 0 2).symm
  have m122 : ∀ i, aZ H113 2 i = aZ H 2 i := fun i => (m116 i).trans (mk2 i)
  have m123 : kpM H H113 := kpM_t mkfr m117
  have tH113 : tkW H H113 := tk_kp mkfr ⟨m117, m116, p120⟩
  have gmH113 := hp0 H113 tH113
  refine g_aload_n rfl ?_
  refine g_sipush (by decide) (fun v124 kv124 => ?_)
  refine g_invvv hIH113 sm_0 rfl rfl rfl rfl (r_198 v124 H113 hIH113 hJH113 (hp0 H113 ⟨m117, m116, p120⟩)) (fun H125 r126 => ?_)
  obtain ⟨hIH125, hJH125, w127, m128, m129, m130, m131, m132, p133, p134⟩ := r126
  have e135 : k0_2 = fZ H125 0 2 := e121.trans w127.symm
  have m136 : ∀ i, aZ H125 2 i = aZ H 2 i := fun i => (m128 i).trans (m122 i)
  have m137 : kpM H H125 := kpM_t m123 m130
  have xm138 : (∀ i, aZ H125 18 i = aZ H113 18 i) := fun i => (m131 i : aZ H125 18 i = aZ H113 18 i).trans ((fun _ => rfl) i)
  have xm139 : (∀ i, aZ H125 2 i = aZ H113 2 i) := fun i => (m128 i : aZ H125 2 i = aZ H113 2 i).trans ((fun _ => rfl) i)
  have xm140 : (∀ i, aZ H125 17 i = aZ H113 17 i) := fun i => (m129 i : aZ H125 17 i = aZ H113 17 i).trans ((fun _ => rfl) i)
  exact g_ret ⟨rfl, hIH125, hJH125, (e135.symm.trans ek0_2), m136, m137, (fun q hq => by obtain ⟨p, hp, e⟩ := p133 q hq (by rw [m129 q]; exact p119 q (by rw [← m128 2]; exact hq)); exact ⟨p, by omega, e⟩), ⟨H113, ⟨m117, m116, p120⟩, by have z := p134; rw [kv124] at z; exact ra_all (hp0 H113 ⟨m117, m116, p120⟩) z⟩⟩
set_option maxRecDepth 4000 in
set_option maxHeartbeats 4000000 in
/-- M.clash -/
theorem r_244 (a1 : Int32) (a2 : Int32) (a3 : Int32) (H : mzH) (hI : gI SM H) (hJ : JN H) (hp0 : ((∀ A, tkW H A → gdM A))) : gCall 244 [.ref 0, .int a1, .int a2, .int a3] H (gRi (fun v H' => gI SM H' ∧ JN H' ∧ fZ H' 0 2 = fZ H 0 2 ∧ kpM H H' ∧ ((v.toInt = -1 ∧ ¬ ((0 ≤ a1.toInt ∧ a1.toInt ≤ 39) ∧ 0 ≤ a2.toInt ∧ (0 ≤ a3.toInt ∧ a3.toInt ≤ 2))) ∨ (((0 ≤ a1.toInt ∧ a1.toInt ≤ 39) ∧ 0 ≤ a2.toInt ∧ (0 ≤ a3.toInt ∧ a3.toInt ≤ 2)) ∧ ∃ A : mzH, tkW H A ∧ ∃ G : mzH, clR (rgM G) (mdM G) ∧ ((pkF (fun q => if (rvM A G q = 6 ∨ rvM A G q = 10) ∧ roM A (odM A q) 1 = 6 ∧ roM A (odM A q) 2 = a1.toInt then (1 : Int) else 0) (cnM A) 0 a2.toInt = -2 ∧ v.toInt = -2) ∨ (∃ q : Nat, q < cnM A ∧ pkF (fun q => if (rvM A G q = 6 ∨ rvM A G q = 10) ∧ roM A (odM A q) 1 = 6 ∧ roM A (odM A q) 2 = a1.toInt then (1 : Int) else 0) (cnM A) 0 a2.toInt = (q : Int) ∧ v.toInt = (if a3.toInt = 0 then roM A (odM A q) 3 else if a3.toInt = 1 then roM A (odM A q) 0 else (odM A q : Int)))))))) := by
  obtain ⟨k0_2, ek0_2⟩ : ∃ z, z = fZ H 0 2 := ⟨_, rfl⟩
  have ik0_2 : k0_2.toInt = (fZ H 0 2).toInt := by rw [← ek0_2]
  have bk0_2 : 0 ≤ k0_2.toInt ∧ k0_2.toInt ≤ 900 := by rw [ek0_2]; exact fZ_of hI sm_0 rfl
  have mkfr : kpM H H := kpM_r
  refine gG_call [(0, .ref 0), (1, .int a1), (2, .int a2), (3, .int a3)] ⟨rfl, rfl, rfl, rfl, trivial⟩ ?_
  show gG 7 zB_244 (mzBlk zB_244 0) [(0, .ref 0), (1, .int a1), (2, .int a2), (3, .int a3)] [] H 0 0 _
  refine g_aload_n rfl ?_
  refine g_iconst (by decide) (fun v989 kv989 => ?_)
  refine g_pfi hI sm_0 rfl (gz_any _) (fun H990 eH990 hIH990 => ?_)
  have hJH990 : JN H990 := JN_sF eH990 hJ
  have e991 : k0_2 = fZ H990 0 2 := by rw [eH990, fZ_sF_ne (by decide)]; exact ek0_2
  have m992 : kpM H H990 := kpM_F mkfr eH990 (by omega)
  refine g_iload_n rfl ?_
  refine g_invti rfl rfl rfl (r_205 a1 H990 hIH990 hJH990) (fun v995 H993 r994 => ?_)
  obtain ⟨rfl, bv995, p996⟩ := r994
  refine g_if_eq (fun c997 => ?_) (fun c997 => ?_)
  · refine g_iconst (by decide) (fun v998 kv998 => ?_)
    exact g_iret ⟨_, rfl, hIH990, hJH990, (e991.symm.trans ek0_2), m992, (Or.inl ⟨by omega, by omega⟩)⟩
  · refine g_iload_n rfl ?_
    refine g_if_lt (fun c999 => ?_) (fun c999 => ?_)
    · refine g_iconst (by decide) (fun v1000 kv1000 => ?_)
      exact g_iret ⟨_, rfl, hIH990, hJH990, (e991.symm.trans ek0_2), m992, (Or.inl ⟨by omega, by omega⟩)⟩
    · refine g_iload_n rfl ?_
      refine g_if_lt (fun c1001 => ?_) (fun c1001 => ?_)
      · refine g_iconst (by decide) (fun v1002 kv1002 => ?_)
        exact g_iret ⟨_, rfl, hIH990, hJH990, (e991.symm.trans ek0_2), m992, (Or.inl ⟨by omega, by omega⟩)⟩
      · refine g_iload_n rfl ?_
        refine g_iconst (by decide) (fun v1003 kv1003 => ?_)
        refine g_if2_le (fun c1004 => ?_) (fun c1004 => ?_)
        · refine g_aload_n rfl ?_
          refine g_invvv hIH990 sm_0 rfl rfl rfl rfl (r_199 H990 hIH990 hJH990 (fun A t => hp0 A (tk_kp m992 t))) (fun H1005 r1006 => ?_)
          obtain ⟨hIH1005, hJH1005, w1007, m1008, m1009, p1010, p1011⟩ := r1006
          have e1012 : k0_2 = fZ H1005 0 2 := e991.trans w1007.symm
          have m1013 : kpM H H1005 := kpM_t m992 m1009
          obtain ⟨A1014, tA1014, G1015, cG1015, wdp1016, wyp1016, oip1016⟩ := p1011
          have uA1014 : tkW H A1014 := tk_kp m992 tA1014
          have hm2 := congrArg Int32.toInt (m1013.1 2 (by decide) 2)
          refine g_iload_n rfl ?_
          refine g_istore (l' := [(0, .ref 0), (1, .int a1), (2, .int a2), (3, .int a3), (4, .int a2)]) rfl rfl ?_
          refine g_iconst (by decide) (fun v1017 kv1017 => ?_)
          refine g_istore (l' := [(0, .ref 0), (1, .int a1), (2, .int a2), (3, .int a3), (4, .int a2), (5, .int v1017)]) rfl rfl ?_
          refine g_nop ?_
          have L1021 : ∀ (N : Nat) (v1018 : Int32) (v1019 : Int32), (0 ≤ v1018.toInt ∧ v1018.toInt ≤ 2147483647) → (0 ≤ v1019.toInt ∧ v1019.toInt ≤ 60) → (∀ i, aZ H1005 20 i = aZ H1005 20 i) → pkF (fun q => if (rvM A1014 G1015 q = 6 ∨ rvM A1014 G1015 q = 10) ∧ roM A1014 (odM A1014 q) 1 = 6 ∧ roM A1014 (odM A1014 q) 2 = a1.toInt then (1 : Int) else 0) (cnM A1014 - v1019.toInt.toNat) v1019.toInt.toNat v1018.toInt = pkF (fun q => if (rvM A1014 G1015 q = 6 ∨ rvM A1014 G1015 q = 10) ∧ roM A1014 (odM A1014 q) 1 = 6 ∧ roM A1014 (odM A1014 q) 2 = a1.toInt then (1 : Int) else 0) (cnM A1014) 0 a2.toInt → (v1019.toInt : Int) ≤ (cnM A1014 : Int) → (0 ≤ v1018.toInt ∧ v1018.toInt ≤ a2.toInt) → (60 - v1019.toInt).toNat < N → gG 7 zB_244 (mzBlk zB_244 3) [(0, .ref 0), (1, .int a1), (2, .int a2), (3, .int a3), (4, .int v1018), (5, .int v1019)] [] H1005 0 0 (gRi (fun v H' => gI SM H' ∧ JN H' ∧ fZ H' 0 2 = fZ H 0 2 ∧ kpM H H' ∧ ((v.toInt = -1 ∧ ¬ ((0 ≤ a1.toInt ∧ a1.toInt ≤ 39) ∧ 0 ≤ a2.toInt ∧ (0 ≤ a3.toInt ∧ a3.toInt ≤ 2))) ∨ (((0 ≤ a1.toInt ∧ a1.toInt ≤ 39) ∧ 0 ≤ a2.toInt ∧ (0 ≤ a3.toInt ∧ a3.toInt ≤ 2)) ∧ ∃ A : mzH, tkW H A ∧ ∃ G : mzH, clR (rgM G) (mdM G) ∧ ((pkF (fun q => if (rvM A G q = 6 ∨ rvM A G q = 10) ∧ roM A (odM A q) 1 = 6 ∧ roM A (odM A q) 2 = a1.toInt then (1 : Int) else 0) (cnM A) 0 a2.toInt = -2 ∧ v.toInt = -2) ∨ (∃ q : Nat, q < cnM A ∧ pkF (fun q => if (rvM A G q = 6 ∨ rvM A G q = 10) ∧ roM A (odM A q) 1 = 6 ∧ roM A (odM A q) 2 = a1.toInt then (1 : Int) else 0) (cnM A) 0 a2.toInt = (q : Int) ∧ v.toInt = (if a3.toInt = 0 then roM A (odM A q) 3 else if a3.toInt = 1 then roM A (odM A q) 0 else (odM A q : Int)))))))) := by
            intro N
            induction N with
            | zero => intro v1018 v1019 bv1018 bv1019 xq1020 q1 q2 q3 hmL1021; exact absurd hmL1021 (Nat.not_lt_zero _)
            | succ N ihL1021 =>
              intro v1018 v1019 bv1018 bv1019 xq1020 q1 q2 q3 hmL1021
              refine g_iload rfl ?_
              refine g_aload_n rfl ?_
              refine g_gfi hIH1005 sm_0 rfl (fun v1022 ev1022 lv1022 uv1022 => ?_)
              have zv1022 : v1022.toInt = (cnM A1014 : Int) := by rw [ev1022]; exact od_n oip1016
              refine g_if2_ge (fun c1023 => ?_) (fun c1023 => ?_)
              · refine g_bipush (by decide) (fun v1024 kv1024 => ?_)
                exact g_iret ⟨_, rfl, hIH1005, (JM_n hJH1005), (e1012.symm.trans ek0_2), m1013, (Or.inr ⟨by omega, ⟨A1014, uA1014, G1015, cG1015,  Or.inl ⟨pk_e q1 (by omega), by omega⟩⟩⟩)⟩
              · refine g_aload_n rfl ?_
                refine g_gfr hIH1005 sm_0 rfl ?_
                refine g_iload rfl ?_
                refine g_iaload hIH1005 sm_19 rfl (by omega) (fun v1025 ev1025 lv1025 uv1025 => ?_)
                have zkv1025 : v1025.toInt.toNat = odM A1014 v1019.toInt.toNat := by rw [ev1025]; exact od_g oip1016 (by omega)
                refine g_istore (l' := [(0, .ref 0), (1, .int a1), (2, .int a2), (3, .int a3), (4, .int v1018), (5, .int v1019), (6, .int v1025)]) rfl rfl ?_
                refine g_aload_n rfl ?_
                refine g_iload rfl ?_
                refine g_iconst (by decide) (fun v1026 kv1026 => ?_)
                refine g_invvi hIH1005 sm_0 rfl rfl rfl rfl (s_181 v1025 (by omega) v1026 (by omega) H1005 hIH1005 (JM_n hJH1005)) (fun v1029 H1027 r1028 => ?_)
                obtain ⟨rfl, p1030⟩ := r1028
                have tv1029 : v1029.toInt = roM A1014 (odM A1014 v1019.toInt.toNat) 1 := rm_t uA1014 m1013 (by rw [p1030, kv1026]; rfl) zkv1025 (by omega)
                refine g_bipush (by decide) (fun v1031 kv1031 => ?_)
                refine g_if2_ne (fun c1032 => ?_) (fun c1032 => ?_)
                · refine g_iinc (l' := (fun v1033 => [(0, .ref 0), (1, .int a1), (2, .int a2), (3, .int a3), (4, .int v1018), (5, .int v1033), (6, .int v1025)])) rfl rfl (by decide) (by omega) (fun _ => rfl) (fun v1033 ev1033 => ?_)
                  refine g_goto ?_
                  refine gG_pick [0, 1, 2, 3, 4, 5] (l' := [(0, .ref 0), (1, .int a1), (2, .int a2), (3, .int a3), (4, .int v1018), (5, .int v1033)]) rfl ?_
                  exact ihL1021 v1018 v1033 (by have := gz_any v1018; omega) (by omega) xq1020 (pk_n q1 (by show ¬ (if (rvM A1014 G1015 v1019.toInt.toNat = 6 ∨ rvM A1014 G1015 v1019.toInt.toNat = 10) ∧ roM A1014 (odM A1014 v1019.toInt.toNat) 1 = 6 ∧ roM A1014 (odM A1014 v1019.toInt.toNat) 2 = a1.toInt then (1 : Int) else 0) = 1; rw [if_neg (by omega)]; decide) (by omega) (by omega) (by omega)) (by omega) (by omega) (by omega)
                · refine g_aload_n rfl ?_
                  refine g_iload rfl ?_
                  refine g_iconst (by decide) (fun v1034 kv1034 => ?_)
                  refine g_invvi hIH1005 sm_0 rfl rfl rfl rfl (s_181 v1025 (by omega) v1034 (by omega) H1005 hIH1005 (JM_n hJH1005)) (fun v1037 H1035 r1036 => ?_)
                  obtain ⟨rfl, p1038⟩ := r1036
                  have tv1037 : v1037.toInt = roM A1014 (odM A1014 v1019.toInt.toNat) 2 := rm_t uA1014 m1013 (by rw [p1038, kv1034]; rfl) zkv1025 (by omega)
                  refine g_iload_n rfl ?_
                  refine g_if2_ne (fun c1039 => ?_) (fun c1039 => ?_)
                  · refine g_iinc (l' := (fun v1040 => [(0, .ref 0), (1, .int a1), (2, .int a2), (3, .int a3), (4, .int v1018), (5, .int v1040), (6, .int v1025)])) rfl rfl (by decide) (by omega) (fun _ => rfl) (fun v1040 ev1040 => ?_)
                    refine g_goto ?_
                    refine gG_pick [0, 1, 2, 3, 4, 5] (l' := [(0, .ref 0), (1, .int a1), (2, .int a2), (3, .int a3), (4, .int v1018), (5, .int v1040)]) rfl ?_
                    exact ihL1021 v1018 v1040 (by have := gz_any v1018; omega) (by omega) xq1020 (pk_n q1 (by show ¬ (if (rvM A1014 G1015 v1019.toInt.toNat = 6 ∨ rvM A1014 G1015 v1019.toInt.toNat = 10) ∧ roM A1014 (odM A1014 v1019.toInt.toNat) 1 = 6 ∧ roM A1014 (odM A1014 v1019.toInt.toNat) 2 = a1.toInt then (1 : Int) else 0) = 1; rw [if_neg (by omega)]; decide) (by omega) (by omega) (by omega)) (by omega) (by omega) (by omega)
                  · refine g_aload_n rfl ?_
                    refine g_gfr hIH1005 sm_0 rfl ?_
                    refine g_iload rfl ?_
                    refine g_iaload hIH1005 sm_20 rfl (by omega) (fun v1041 ev1041 lv1041 uv1041 => ?_)
                    have yv1041 : v1041.toInt = rvM A1014 G1015 v1019.toInt.toNat := by rw [ev1041, zkv1025]; exact wyp1016 _ (by omega)
                    refine g_bipush (by decide) (fun v1042 kv1042 => ?_)
                    refine g_if2_eq (fun c1043 => ?_) (fun c1043 => ?_)
                    · refine g_iload rfl ?_
                      refine g_if_ne (fun c1044 => ?_) (fun c1044 => ?_)
                      · refine g_iinc (l' := (fun v1045 => [(0, .ref 0), (1, .int a1), (2, .int a2), (3, .int a3), (4, .int v1045), (5, .int v1019), (6, .int v1025)])) rfl rfl (by decide) (by have := gz_any v1018; omega) (fun _ => rfl) (fun v1045 ev1045 => ?_)
                        refine g_nop ?_
                        refine g_iinc (l' := (fun v1046 => [(0, .ref 0), (1, .int a1), (2, .int a2), (3, .int a3), (4, .int v1045), (5, .int v1046), (6, .int v1025)])) rfl rfl (by decide) (by omega) (fun _ => rfl) (fun v1046 ev1046 => ?_)
                        refine g_goto ?_
                        refine gG_pick [0, 1, 2, 3, 4, 5] (l' := [(0, .ref 0), (1, .int a1), (2, .int a2), (3, .int a3), (4, .int v1045), (5, .int v1046)]) rfl ?_
                        exact ihL1021 v1045 v1046 (by have := gz_any v1045; omega) (by omega) xq1020 (pk_s q1 (by show (if (rvM A1014 G1015 v1019.toInt.toNat = 6 ∨ rvM A1014 G1015 v1019.toInt.toNat = 10) ∧ roM A1014 (odM A1014 v1019.toInt.toNat) 1 = 6 ∧ roM A1014 (odM A1014 v1019.toInt.toNat) 2 = a1.toInt then (1 : Int) else 0) = 1; rw [if_pos (by omega)]) (by omega) (by omega) (by omega) (by omega)) (by omega) (by omega) (by omega)
                      · refine g_iload_n rfl ?_
                        refine g_if_ne (fun c1047 => ?_) (fun c1047 => ?_)
                        · refine g_iload_n rfl ?_
                          refine g_iconst (by decide) (fun v1048 kv1048 => ?_)
                          refine g_if2_ne (fun c1049 => ?_) (fun c1049 => ?_)
                          · refine g_iload rfl ?_
                            refine g_nop ?_
                            exact g_iret ⟨_, rfl, hIH1005, (JM_n hJH1005), (e1012.symm.trans ek0_2), m1013, (Or.inr ⟨by omega, ⟨A1014, uA1014, G1015, cG1015,  Or.inr ⟨v1019.toInt.toNat, by omega, by rw [← q1]; exact pk_y (by show (if (rvM A1014 G1015 v1019.toInt.toNat = 6 ∨ rvM A1014 G1015 v1019.toInt.toNat = 10) ∧ roM A1014 (odM A1014 v1019.toInt.toNat) 1 = 6 ∧ roM A1014 (odM A1014 v1019.toInt.toNat) 2 = a1.toInt then (1 : Int) else 0) = 1; rw [if_pos (by omega)]) (by omega) (by omega), by rw [if_neg (by omega), if_neg (by omega)]; omega⟩⟩⟩)⟩
                          · refine g_aload_n rfl ?_
                            refine g_iload rfl ?_
                            refine g_iconst (by decide) (fun v1050 kv1050 => ?_)
                            refine g_invvi hIH1005 sm_0 rfl rfl rfl rfl (s_181 v1025 (by omega) v1050 (by omega) H1005 hIH1005 (JM_n hJH1005)) (fun v1053 H1051 r1052 => ?_)
                            obtain ⟨rfl, p1054⟩ := r1052
                            have tv1053 : v1053.toInt = roM A1014 (odM A1014 v1019.toInt.toNat) 0 := rm_t uA1014 m1013 (by rw [p1054, kv1050]; rfl) zkv1025 (by omega)
                            refine g_goto ?_
                            exact g_iret ⟨_, rfl, hIH1005, (JM_n hJH1005), (e1012.symm.trans ek0_2), m1013, (Or.inr ⟨by omega, ⟨A1014, uA1014, G1015, cG1015,  Or.inr ⟨v1019.toInt.toNat, by omega, by rw [← q1]; exact pk_y (by show (if (rvM A1014 G1015 v1019.toInt.toNat = 6 ∨ rvM A1014 G1015 v1019.toInt.toNat = 10) ∧ roM A1014 (odM A1014 v1019.toInt.toNat) 1 = 6 ∧ roM A1014 (odM A1014 v1019.toInt.toNat) 2 = a1.toInt then (1 : Int) else 0) = 1; rw [if_pos (by omega)]) (by omega) (by omega), by rw [if_neg (by omega), if_pos (by omega)]; exact tv1053⟩⟩⟩)⟩
                        · refine g_aload_n rfl ?_
                          refine g_iload rfl ?_
                          refine g_iconst (by decide) (fun v1055 kv1055 => ?_)
                          refine g_invvi hIH1005 sm_0 rfl rfl rfl rfl (s_181 v1025 (by omega) v1055 (by omega) H1005 hIH1005 (JM_n hJH1005)) (fun v1058 H1056 r1057 => ?_)
                          obtain ⟨rfl, p1059⟩ := r1057
                          have tv1058 : v1058.toInt = roM A1014 (odM A1014 v1019.toInt.toNat) 3 := rm_t uA1014 m1013 (by rw [p1059, kv1055]; rfl) zkv1025 (by omega)
                          refine g_goto ?_
                          exact g_iret ⟨_, rfl, hIH1005, (JM_n hJH1005), (e1012.symm.trans ek0_2), m1013, (Or.inr ⟨by omega, ⟨A1014, uA1014, G1015, cG1015,  Or.inr ⟨v1019.toInt.toNat, by omega, by rw [← q1]; exact pk_y (by show (if (rvM A1014 G1015 v1019.toInt.toNat = 6 ∨ rvM A1014 G1015 v1019.toInt.toNat = 10) ∧ roM A1014 (odM A1014 v1019.toInt.toNat) 1 = 6 ∧ roM A1014 (odM A1014 v1019.toInt.toNat) 2 = a1.toInt then (1 : Int) else 0) = 1; rw [if_pos (by omega)]) (by omega) (by omega), by rw [if_pos (by omega)]; exact tv1058⟩⟩⟩)⟩
                    · refine g_aload_n rfl ?_
                      refine g_gfr hIH1005 sm_0 rfl ?_
                      refine g_iload rfl ?_
                      refine g_ialoadk hIH1005 sm_20 rfl (by omega) ev1041 ?_
                      refine g_bipush (by decide) (fun v1060 kv1060 => ?_)
                      refine g_if2_eq (fun c1061 => ?_) (fun c1061 => ?_)
                      · refine g_iload rfl ?_
                        refine g_if_ne (fun c1062 => ?_) (fun c1062 => ?_)
                        · refine g_iinc (l' := (fun v1063 => [(0, .ref 0), (1, .int a1), (2, .int a2), (3, .int a3), (4, .int v1063), (5, .int v1019), (6, .int v1025)])) rfl rfl (by decide) (by have := gz_any v1018; omega) (fun _ => rfl) (fun v1063 ev1063 => ?_)
                          refine g_nop ?_
                          refine g_iinc (l' := (fun v1064 => [(0, .ref 0), (1, .int a1), (2, .int a2), (3, .int a3), (4, .int v1063), (5, .int v1064), (6, .int v1025)])) rfl rfl (by decide) (by omega) (fun _ => rfl) (fun v1064 ev1064 => ?_)
                          refine g_goto ?_
                          refine gG_pick [0, 1, 2, 3, 4, 5] (l' := [(0, .ref 0), (1, .int a1), (2, .int a2), (3, .int a3), (4, .int v1063), (5, .int v1064)]) rfl ?_
                          exact ihL1021 v1063 v1064 (by have := gz_any v1063; omega) (by omega) xq1020 (pk_s q1 (by show (if (rvM A1014 G1015 v1019.toInt.toNat = 6 ∨ rvM A1014 G1015 v1019.toInt.toNat = 10) ∧ roM A1014 (odM A1014 v1019.toInt.toNat) 1 = 6 ∧ roM A1014 (odM A1014 v1019.toInt.toNat) 2 = a1.toInt then (1 : Int) else 0) = 1; rw [if_pos (by omega)]) (by omega) (by omega) (by omega) (by omega)) (by omega) (by omega) (by omega)
                        · refine g_iload_n rfl ?_
                          refine g_if_ne (fun c1065 => ?_) (fun c1065 => ?_)
                          · refine g_iload_n rfl ?_
                            refine g_iconst (by decide) (fun v1066 kv1066 => ?_)
                            refine g_if2_ne (fun c1067 => ?_) (fun c1067 => ?_)
                            · refine g_iload rfl ?_
                              refine g_nop ?_
                              exact g_iret ⟨_, rfl, hIH1005, (JM_n hJH1005), (e1012.symm.trans ek0_2), m1013, (Or.inr ⟨by omega, ⟨A1014, uA1014, G1015, cG1015,  Or.inr ⟨v1019.toInt.toNat, by omega, by rw [← q1]; exact pk_y (by show (if (rvM A1014 G1015 v1019.toInt.toNat = 6 ∨ rvM A1014 G1015 v1019.toInt.toNat = 10) ∧ roM A1014 (odM A1014 v1019.toInt.toNat) 1 = 6 ∧ roM A1014 (odM A1014 v1019.toInt.toNat) 2 = a1.toInt then (1 : Int) else 0) = 1; rw [if_pos (by omega)]) (by omega) (by omega), by rw [if_neg (by omega), if_neg (by omega)]; omega⟩⟩⟩)⟩
                            · refine g_aload_n rfl ?_
                              refine g_iload rfl ?_
                              refine g_iconst (by decide) (fun v1068 kv1068 => ?_)
                              refine g_invvi hIH1005 sm_0 rfl rfl rfl rfl (s_181 v1025 (by omega) v1068 (by omega) H1005 hIH1005 (JM_n hJH1005)) (fun v1071 H1069 r1070 => ?_)
                              obtain ⟨rfl, p1072⟩ := r1070
                              have tv1071 : v1071.toInt = roM A1014 (odM A1014 v1019.toInt.toNat) 0 := rm_t uA1014 m1013 (by rw [p1072, kv1068]; rfl) zkv1025 (by omega)
                              refine g_goto ?_
                              exact g_iret ⟨_, rfl, hIH1005, (JM_n hJH1005), (e1012.symm.trans ek0_2), m1013, (Or.inr ⟨by omega, ⟨A1014, uA1014, G1015, cG1015,  Or.inr ⟨v1019.toInt.toNat, by omega, by rw [← q1]; exact pk_y (by show (if (rvM A1014 G1015 v1019.toInt.toNat = 6 ∨ rvM A1014 G1015 v1019.toInt.toNat = 10) ∧ roM A1014 (odM A1014 v1019.toInt.toNat) 1 = 6 ∧ roM A1014 (odM A1014 v1019.toInt.toNat) 2 = a1.toInt then (1 : Int) else 0) = 1; rw [if_pos (by omega)]) (by omega) (by omega), by rw [if_neg (by omega), if_pos (by omega)]; exact tv1071⟩⟩⟩)⟩
                          · refine g_aload_n rfl ?_
                            refine g_iload rfl ?_
                            refine g_iconst (by decide) (fun v1073 kv1073 => ?_)
                            refine g_invvi hIH1005 sm_0 rfl rfl rfl rfl (s_181 v1025 (by omega) v1073 (by omega) H1005 hIH1005 (JM_n hJH1005)) (fun v1076 H1074 r1075 => ?_)
                            obtain ⟨rfl, p1077⟩ := r1075
                            have tv1076 : v1076.toInt = roM A1014 (odM A1014 v1019.toInt.toNat) 3 := rm_t uA1014 m1013 (by rw [p1077, kv1073]; rfl) zkv1025 (by omega)
                            refine g_goto ?_
                            exact g_iret ⟨_, rfl, hIH1005, (JM_n hJH1005), (e1012.symm.trans ek0_2), m1013, (Or.inr ⟨by omega, ⟨A1014, uA1014, G1015, cG1015,  Or.inr ⟨v1019.toInt.toNat, by omega, by rw [← q1]; exact pk_y (by show (if (rvM A1014 G1015 v1019.toInt.toNat = 6 ∨ rvM A1014 G1015 v1019.toInt.toNat = 10) ∧ roM A1014 (odM A1014 v1019.toInt.toNat) 1 = 6 ∧ roM A1014 (odM A1014 v1019.toInt.toNat) 2 = a1.toInt then (1 : Int) else 0) = 1; rw [if_pos (by omega)]) (by omega) (by omega), by rw [if_pos (by omega)]; exact tv1076⟩⟩⟩)⟩
                      · refine g_goto ?_
                        refine g_iinc (l' := (fun v1078 => [(0, .ref 0), (1, .int a1), (2, .int a2), (3, .int a3), (4, .int v1018), (5, .int v1078), (6, .int v1025)])) rfl rfl (by decide) (by omega) (fun _ => rfl) (fun v1078 ev1078 => ?_)
                        refine g_goto ?_
                        refine gG_pick [0, 1, 2, 3, 4, 5] (l' := [(0, .ref 0), (1, .int a1), (2, .int a2), (3, .int a3), (4, .int v1018), (5, .int v1078)]) rfl ?_
                        exact ihL1021 v1018 v1078 (by have := gz_any v1018; omega) (by omega) xq1020 (pk_n q1 (by show ¬ (if (rvM A1014 G1015 v1019.toInt.toNat = 6 ∨ rvM A1014 G1015 v1019.toInt.toNat = 10) ∧ roM A1014 (odM A1014 v1019.toInt.toNat) 1 = 6 ∧ roM A1014 (odM A1014 v1019.toInt.toNat) 2 = a1.toInt then (1 : Int) else 0) = 1; rw [if_neg (by omega)]; decide) (by omega) (by omega) (by omega)) (by omega) (by omega) (by omega)
          exact L1021 _ a2 v1017 (by have := gz_any a2; omega) (by omega) (fun _ => rfl) (by rw [show cnM A1014 - v1017.toInt.toNat = cnM A1014 by omega, show v1017.toInt.toNat = 0 by omega]) (by omega) (by omega) (Nat.lt_succ_self _)
        · refine g_nop ?_
          refine g_iconst (by decide) (fun v1079 kv1079 => ?_)
          exact g_iret ⟨_, rfl, hIH990, hJH990, (e991.symm.trans ek0_2), m992, (Or.inl ⟨by omega, by omega⟩)⟩
