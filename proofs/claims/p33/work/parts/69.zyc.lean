/-! THE REFERENCE, MESSAGE BY MESSAGE -/
theorem kpM_d {H A B : mzH} (h : kpM H A) (k : kpM H B) : kpM A B := ⟨fun c hc i => (k.1 c hc i).trans (h.1 c hc i).symm, fun f hf => (k.2 f hf).trans (h.2 f hf).symm⟩
theorem rwX_F {H B : mzH} {a f : Nat} {v : Int32} {s : pS} {md : Nat → Int} (e : B = sF H a f v) (h : rwX H s md) : rwX B s md := fun n hn => by
  rw [e]
  simp only [aZ_sF]
  exact h n hn
theorem tr0_a {wh hr : Nat → Int} {p : Nat} {H : mzH} (e : p = 0) : ∀ j, j < (trS wh hr p).1 → (aZ H 22 j).toInt = (trS wh hr p).2.1 j ∧ (aZ H 23 j).toInt = (trS wh hr p).2.2.1 j := by
  subst e
  exact fun j hj => absurd hj (Nat.not_lt_zero _)
theorem tra_s {wh hr : Nat → Int} {p p2 : Nat} {w : Int} {H B : mzH} (q : w = (trS wh hr p).2.2.2) (r : ∀ j, j < (trS wh hr p).1 → (aZ H 22 j).toInt = (trS wh hr p).2.1 j ∧ (aZ H 23 j).toInt = (trS wh hr p).2.2.1 j) (k2 : ∀ i, aZ B 22 i = aZ H 22 i) (k3 : ∀ i, aZ B 23 i = aZ H 23 i) (e : p2 = p + 1) (h : wh p = w) : ∀ j, j < (trS wh hr p2).1 → (aZ B 22 j).toInt = (trS wh hr p2).2.1 j ∧ (aZ B 23 j).toInt = (trS wh hr p2).2.2.1 j := by
  subst e
  rw [tr_s (h.trans q)]
  intro j hj
  rw [k2, k3]
  exact r j hj
theorem tra_n {wh hr : Nat → Int} {p p2 : Nat} {w : Int} {H B C D F : mzH} {x x2 v v2 u : Int32} (q : w = (trS wh hr p).2.2.2) (r : ∀ j, j < (trS wh hr p).1 → (aZ H 22 j).toInt = (trS wh hr p).2.1 j ∧ (aZ H 23 j).toInt = (trS wh hr p).2.2.1 j) (k2 : ∀ i, aZ B 22 i = aZ H 22 i) (k3 : ∀ i, aZ B 23 i = aZ H 23 i) (hB : gI SM B) (hC : gI SM C) (eC : C = sA B 22 x.toInt.toNat v) (eD : D = sA C 23 x2.toInt.toNat v2) (eF : F = sF D 0 39 u) (hx : x.toInt.toNat = (trS wh hr p).1) (hx2 : x2.toInt.toNat = (trS wh hr p).1) (hl : (trS wh hr p).1 < 61) (h : wh p ≠ w) (hv : v.toInt = wh p) (hv2 : v2.toInt = hr p) (e : p2 = p + 1) : ∀ j, j < (trS wh hr p2).1 → (aZ F 22 j).toInt = (trS wh hr p2).2.1 j ∧ (aZ F 23 j).toInt = (trS wh hr p2).2.2.1 j := by
  subst e
  rw [tr_n (fun z => h (z.trans q.symm))]
  intro j hj
  have hj : j < (trS wh hr p).1 + 1 := hj
  show (aZ F 22 j).toInt = (if j = (trS wh hr p).1 then wh p else (trS wh hr p).2.1 j) ∧ (aZ F 23 j).toInt = (if j = (trS wh hr p).1 then hr p else (trS wh hr p).2.2.1 j)
  rw [eF, aZ_sF, aZ_sF, eD, aZ_sA_nc (by decide), hx2]
  if c : j = (trS wh hr p).1 then
    rw [if_pos c, if_pos c, c, aZ_sA_eq hC sm_23 hl, eC, hx, aZ_sA_eq hB sm_22 hl]
    exact ⟨hv, hv2⟩
  else
    rw [if_neg c, if_neg c, aZ_sA_ne (by omega), eC, hx, aZ_sA_ne (by omega), aZ_sA_nc (by decide), k2, k3]
    exact r j (by omega)
set_option maxRecDepth 4000 in
set_option maxHeartbeats 4000000 in
/-- M.laysTrail -/
theorem r_214 (a1 : Int32) (ha1 : 0 ≤ a1.toInt ∧ a1.toInt ≤ 39) (H : mzH) (hI : gI SM H) (hJ : JN H) (hp0 : ((∀ A, tkW H A → gdM A))) : gCall 214 [.ref 0, .int a1] H (gRv (fun H' => gI SM H' ∧ JM H' ∧ fZ H' 0 2 = fZ H 0 2 ∧ kpM H H' ∧ (∃ A : mzH, tkW H A ∧ ∃ G : mzH, clR (rgM G) (mdM G) ∧ (fZ H' 0 39).toInt = ((trS (fun q => whM (fM A G (q + 1)).1 (fM A G (q + 1)).2 a1.toInt.toNat) (hqM A) (cnM A)).1 : Int) ∧ ∀ j, j < (trS (fun q => whM (fM A G (q + 1)).1 (fM A G (q + 1)).2 a1.toInt.toNat) (hqM A) (cnM A)).1 → (aZ H' 22 j).toInt = (trS (fun q => whM (fM A G (q + 1)).1 (fM A G (q + 1)).2 a1.toInt.toNat) (hqM A) (cnM A)).2.1 j ∧ (aZ H' 23 j).toInt = (trS (fun q => whM (fM A G (q + 1)).1 (fM A G (q + 1)).2 a1.toInt.toNat) (hqM A) (cnM A)).2.2.1 j))) := by
  obtain ⟨k0_2, ek0_2⟩ : ∃ z, z = fZ H 0 2 := ⟨_, rfl⟩
  have ik0_2 : k0_2.toInt = (fZ H 0 2).toInt := by rw [← ek0_2]
  have bk0_2 : 0 ≤ k0_2.toInt ∧ k0_2.toInt ≤ 900 := by rw [ek0_2]; exact fZ_of hI sm_0 rfl
  have mkfr : kpM H H := kpM_r
  refine gG_call [(0, .ref 0), (1, .int a1)] ⟨rfl, rfl, trivial⟩ ?_
  show gG 5 zB_214 (mzBlk zB_214 0) [(0, .ref 0), (1, .int a1)] [] H 0 0 _
  refine g_aload_n rfl ?_
  refine g_invvv hI sm_0 rfl rfl rfl rfl (r_182 H hI hJ) (fun H1063 r1064 => ?_)
  obtain ⟨hIH1063, hJH1063, m1065, m1066, m1067, m1068, p1069, p1070⟩ := r1064
  have e1071 : k0_2 = fZ H1063 0 2 := ek0_2.trans (m1065 0 2).symm
  have im1065_0_39 : (fZ H1063 0 39).toInt = (fZ H 0 39).toInt := by rw [m1065]
  have m1072 : kpM H H1063 := kpM_t mkfr m1067
  have tH1063 : tkW H H1063 := tk_kp mkfr ⟨m1067, m1066, p1070⟩
  have gmH1063 := hp0 H1063 tH1063
  refine g_aload_n rfl ?_
  refine g_invvv hIH1063 sm_0 rfl rfl rfl rfl (r_184 H1063 hIH1063 hJH1063) (fun H1073 r1074 => ?_)
  obtain ⟨hIH1073, hJH1073, w1075, m1076, m1077, m1078, m1079, m1080, p1081, p1082, p1083⟩ := r1074
  have e1084 : k0_2 = fZ H1073 0 2 := e1071.trans w1075.symm
  have m1085 : kpM H H1073 := kpM_t m1072 m1078
  have xm1086 : (∀ i, aZ H1073 18 i = aZ H1063 18 i) := fun i => (m1079 i : aZ H1073 18 i = aZ H1063 18 i).trans ((fun _ => rfl) i)
  have xm1087 : (∀ i, aZ H1073 2 i = aZ H1063 2 i) := fun i => (m1076 i : aZ H1073 2 i = aZ H1063 2 i).trans ((fun _ => rfl) i)
  have xm1088 : (∀ i, aZ H1073 17 i = aZ H1063 17 i) := fun i => (m1077 i : aZ H1073 17 i = aZ H1063 17 i).trans ((fun _ => rfl) i)
  have clH1073 := p1082
  have odH1073 := p1083
  have wdH1073 : rwX H1073 (fM H1063 H1073 0).1 (fM H1063 H1073 0).2 := rw_rd
  refine g_aload_n rfl ?_
  refine g_iconst (by decide) (fun v1089 kv1089 => ?_)
  refine g_pfi hIH1073 sm_0 rfl (by omega) (fun H1090 eH1090 hIH1090 => ?_)
  have hJH1090 : JM H1090 := JM_sF eH1090 hJH1073
  have e1091 : k0_2 = fZ H1090 0 2 := by rw [eH1090, fZ_sF_ne (by decide)]; exact e1084
  have e1092 : v1089 = fZ H1090 0 39 := by rw [eH1090, fZ_sF_eq hIH1073 sm_0 rfl]
  have m1093 : kpM H H1090 := kpM_F m1085 eH1090 (by omega)
  have wdH1090 : rwX H1090 (fM H1063 H1073 0).1 (fM H1063 H1073 0).2 := rwX_F eH1090 wdH1073
  have xm1094 : (∀ i, aZ H1090 18 i = aZ H1063 18 i) := fun i => (by rw [eH1090, aZ_sF] : aZ H1090 18 i = aZ H1073 18 i).trans (xm1086 i)
  have xm1095 : (∀ i, aZ H1090 2 i = aZ H1063 2 i) := fun i => (by rw [eH1090, aZ_sF] : aZ H1090 2 i = aZ H1073 2 i).trans (xm1087 i)
  have xm1096 : (∀ i, aZ H1090 17 i = aZ H1063 17 i) := fun i => (by rw [eH1090, aZ_sF] : aZ H1090 17 i = aZ H1073 17 i).trans (xm1088 i)
  have xm1097 : (∀ i, aZ H1090 19 i = aZ H1073 19 i) := fun i => (by rw [eH1090, aZ_sF] : aZ H1090 19 i = aZ H1073 19 i).trans ((fun _ => rfl) i)
  have xm1098 : fZ H1090 0 34 = fZ H1073 0 34 := (by rw [eH1090, fZ_sF_ne (by decide)] : fZ H1090 0 34 = fZ H1073 0 34).trans rfl
  have ie1092 : v1089.toInt = (fZ H1090 0 39).toInt := by rw [← e1092]
  refine g_bipush (by decide) (fun v1099 kv1099 => ?_)
  refine g_istore_n (l' := [(0, .ref 0), (1, .int a1), (2, .int v1099)]) rfl rfl ?_
  refine g_iconst (by decide) (fun v1100 kv1100 => ?_)
  refine g_istore_n (l' := [(0, .ref 0), (1, .int a1), (2, .int v1099), (3, .int v1100)]) rfl rfl ?_
  refine g_nop ?_
  have L1111 : ∀ (N : Nat) (v1101 : Int32) (v1102 : Int32) (H1103 : mzH), gI SM H1103 → JM H1103 → k0_2 = fZ H1103 0 2 → kpM H H1103 → (-4 ≤ v1101.toInt ∧ v1101.toInt ≤ 7) → (0 ≤ v1102.toInt ∧ v1102.toInt ≤ 60) → (∀ i, aZ H1103 18 i = aZ H1063 18 i) → (∀ i, aZ H1103 2 i = aZ H1063 2 i) → (∀ i, aZ H1103 17 i = aZ H1063 17 i) → (∀ i, aZ H1103 19 i = aZ H1073 19 i) → fZ H1103 0 34 = fZ H1073 0 34 → (fZ H1103 0 39).toInt ≤ v1102.toInt → rwX H1103 (fM H1063 H1073 v1102.toInt.toNat).1 (fM H1063 H1073 v1102.toInt.toNat).2 → v1102.toInt.toNat ≤ cnM H1063 → v1101.toInt = (trS (fun q => whM (fM H1063 H1073 (q + 1)).1 (fM H1063 H1073 (q + 1)).2 a1.toInt.toNat) (hqM H1063) v1102.toInt.toNat).2.2.2 → (fZ H1103 0 39).toInt = ((trS (fun q => whM (fM H1063 H1073 (q + 1)).1 (fM H1063 H1073 (q + 1)).2 a1.toInt.toNat) (hqM H1063) v1102.toInt.toNat).1 : Int) → (∀ j, j < (trS (fun q => whM (fM H1063 H1073 (q + 1)).1 (fM H1063 H1073 (q + 1)).2 a1.toInt.toNat) (hqM H1063) v1102.toInt.toNat).1 → (aZ H1103 22 j).toInt = (trS (fun q => whM (fM H1063 H1073 (q + 1)).1 (fM H1063 H1073 (q + 1)).2 a1.toInt.toNat) (hqM H1063) v1102.toInt.toNat).2.1 j ∧ (aZ H1103 23 j).toInt = (trS (fun q => whM (fM H1063 H1073 (q + 1)).1 (fM H1063 H1073 (q + 1)).2 a1.toInt.toNat) (hqM H1063) v1102.toInt.toNat).2.2.1 j) → (60 - v1102.toInt).toNat < N → gG 5 zB_214 (mzBlk zB_214 1) [(0, .ref 0), (1, .int a1), (2, .int v1101), (3, .int v1102)] [] H1103 0 0 (gRv (fun H' => gI SM H' ∧ JM H' ∧ fZ H' 0 2 = fZ H 0 2 ∧ kpM H H' ∧ (∃ A : mzH, tkW H A ∧ ∃ G : mzH, clR (rgM G) (mdM G) ∧ (fZ H' 0 39).toInt = ((trS (fun q => whM (fM A G (q + 1)).1 (fM A G (q + 1)).2 a1.toInt.toNat) (hqM A) (cnM A)).1 : Int) ∧ ∀ j, j < (trS (fun q => whM (fM A G (q + 1)).1 (fM A G (q + 1)).2 a1.toInt.toNat) (hqM A) (cnM A)).1 → (aZ H' 22 j).toInt = (trS (fun q => whM (fM A G (q + 1)).1 (fM A G (q + 1)).2 a1.toInt.toNat) (hqM A) (cnM A)).2.1 j ∧ (aZ H' 23 j).toInt = (trS (fun q => whM (fM A G (q + 1)).1 (fM A G (q + 1)).2 a1.toInt.toNat) (hqM A) (cnM A)).2.2.1 j))) := by
    intro N
    induction N with
    | zero => intro v1101 v1102 H1103 hIH1103 hJH1103 e1104 m1105 bv1101 bv1102 xq1106 xq1107 xq1108 xq1109 xq1110 q1 q5 q8 q6 q7 q9 hmL1111; exact absurd hmL1111 (Nat.not_lt_zero _)
    | succ N ihL1111 =>
      intro v1101 v1102 H1103 hIH1103 hJH1103 e1104 m1105 bv1101 bv1102 xq1106 xq1107 xq1108 xq1109 xq1110 q1 q5 q8 q6 q7 q9 hmL1111
      obtain ⟨k1112, ek1112⟩ : ∃ z, z = fZ H1103 0 39 := ⟨_, rfl⟩
      have ik1112 : k1112.toInt = (fZ H1103 0 39).toInt := by rw [← ek1112]
      have bk1112 : 0 ≤ k1112.toInt ∧ k1112.toInt ≤ 60 := by rw [ek1112]; exact fZ_of hIH1103 sm_0 rfl
      refine g_iload_n rfl ?_
      refine g_aload_n rfl ?_
      refine g_gfi hIH1103 sm_0 rfl (fun v1113 ev1113 lv1113 uv1113 => ?_)
      have zv1113 : v1113.toInt = (cnM H1063 : Int) := by rw [ev1113]; exact od_n (od_cg2 xq1109 xq1110 odH1073)
      refine g_if2_ge (fun c1114 => ?_) (fun c1114 => ?_)
      · exact g_ret ⟨rfl, hIH1103, hJH1103, (e1104.symm.trans ek0_2), m1105, ⟨H1063, tH1063, H1073, clH1073, by rw [show cnM H1063 = v1102.toInt.toNat by omega]; exact ⟨q7, q9⟩⟩⟩
      · refine g_aload_n rfl ?_
        refine g_aload_n rfl ?_
        refine g_gfr hIH1103 sm_0 rfl ?_
        refine g_iload_n rfl ?_
        refine g_iaload hIH1103 sm_19 rfl (by omega) (fun v1115 ev1115 lv1115 uv1115 => ?_)
        have zkv1115 : v1115.toInt.toNat = odM H1063 v1102.toInt.toNat := by rw [ev1115]; exact od_g (od_cg2 xq1109 xq1110 odH1073) (by omega)
        refine g_invvv hIH1103 sm_0 rfl rfl rfl rfl (r_192 v1115 (by omega) H1103 hIH1103 hJH1103 q5 (gmH1063.2 H1073 clH1073 v1102.toInt.toNat (by omega)).1 (gmH1063.2 H1073 clH1073 v1102.toInt.toNat (by omega)).2 (by rw [xq1106, zkv1115]; exact gmH1063.1 v1102.toInt.toNat (by omega)) (bt_of hIH1103 q5)) (fun H1116 r1117 => ?_)
        obtain ⟨hIH1116, hJH1116, m1118, m1119, m1120, m1121, m1122, m1123, m1124, m1125, m1126, m1127, p1128, p1129, p1130⟩ := r1117
        have e1131 : k0_2 = fZ H1116 0 2 := e1104.trans (m1118 0 2).symm
        have e1132 : k1112 = fZ H1116 0 39 := ek1112.trans (m1118 0 39).symm
        have m1133 : kpM H H1116 := kpM_t m1105 m1122
        have ie1132 : k1112.toInt = (fZ H1116 0 39).toInt := by rw [← e1132]
        have xm1134 : (∀ i, aZ H1116 18 i = aZ H1063 18 i) := fun i => (m1123 i : aZ H1116 18 i = aZ H1103 18 i).trans (xq1106 i)
        have xm1135 : (∀ i, aZ H1116 2 i = aZ H1063 2 i) := fun i => (m1119 i : aZ H1116 2 i = aZ H1103 2 i).trans (xq1107 i)
        have xm1136 : (∀ i, aZ H1116 17 i = aZ H1063 17 i) := fun i => (m1121 i : aZ H1116 17 i = aZ H1103 17 i).trans (xq1108 i)
        have xm1137 : (∀ i, aZ H1116 19 i = aZ H1073 19 i) := fun i => (m1120 i : aZ H1116 19 i = aZ H1103 19 i).trans (xq1109 i)
        have xm1138 : fZ H1116 0 34 = fZ H1073 0 34 := (m1118 0 34 : fZ H1116 0 34 = fZ H1103 0 34).trans xq1110
        have xm1139 : (∀ i, aZ H1116 22 i = aZ H1103 22 i) := fun i => (m1124 i : aZ H1116 22 i = aZ H1103 22 i).trans ((fun _ => rfl) i)
        have xm1140 : (∀ i, aZ H1116 23 i = aZ H1103 23 i) := fun i => (m1125 i : aZ H1116 23 i = aZ H1103 23 i).trans ((fun _ => rfl) i)
        have wzp1141 : rwX H1116 (fM H1063 H1073 (v1102.toInt.toNat + 1)).1 (fM H1063 H1073 (v1102.toInt.toNat + 1)).2 := fm_st (H := H1063) (kpM_d tH1063.1 m1105) xq1106 xq1107 p1128 zkv1115 (by omega) rfl
        obtain ⟨dpp1141, lap1141⟩ := gmH1063.2 H1073 clH1073 (v1102.toInt.toNat + 1) (by omega)
        refine g_aload_n rfl ?_
        refine g_iload_n rfl ?_
        refine g_invvi hIH1116 sm_0 rfl rfl rfl rfl (r_201 a1 (by omega) H1116 hIH1116 hJH1116 wzp1141 dpp1141) (fun v1144 H1142 r1143 => ?_)
        obtain ⟨rfl, bv1144, p1145⟩ := r1143
        refine g_istore (l' := [(0, .ref 0), (1, .int a1), (2, .int v1101), (3, .int v1102), (4, .int v1144)]) rfl rfl ?_
        refine g_iload rfl ?_
        refine g_iload_n rfl ?_
        refine g_if2_ne (fun c1146 => ?_) (fun c1146 => ?_)
        · refine g_aload_n rfl ?_
          refine g_gfr hIH1116 sm_0 rfl ?_
          refine g_aload_n rfl ?_
          refine g_gfk hIH1116 sm_0 rfl e1132 ?_
          refine g_iload rfl ?_
          refine g_iastore hIH1116 sm_22 (by omega) (by omega) (fun H1147 eH1147 hIH1147 => ?_)
          have hJH1147 : JM H1147 := JM_sA (by decide) eH1147 hJH1116
          have e1148 : k0_2 = fZ H1147 0 2 := by rw [eH1147, fZ_sA]; exact e1131
          have e1149 : k1112 = fZ H1147 0 39 := by rw [eH1147, fZ_sA]; exact e1132
          have m1150 : kpM H H1147 := kpM_A m1133 eH1147 (by omega)
          have wdH1147 : rwX H1147 (fM H1063 H1073 (v1102.toInt.toNat + 1)).1 (fM H1063 H1073 (v1102.toInt.toNat + 1)).2 := rw_o wzp1141 eH1147 (by decide)
          have xm1151 : (∀ i, aZ H1147 18 i = aZ H1063 18 i) := fun i => (by rw [eH1147, aZ_sA_nc (by decide)] : aZ H1147 18 i = aZ H1116 18 i).trans (xm1134 i)
          have xm1152 : (∀ i, aZ H1147 2 i = aZ H1063 2 i) := fun i => (by rw [eH1147, aZ_sA_nc (by decide)] : aZ H1147 2 i = aZ H1116 2 i).trans (xm1135 i)
          have xm1153 : (∀ i, aZ H1147 17 i = aZ H1063 17 i) := fun i => (by rw [eH1147, aZ_sA_nc (by decide)] : aZ H1147 17 i = aZ H1116 17 i).trans (xm1136 i)
          have xm1154 : (∀ i, aZ H1147 19 i = aZ H1073 19 i) := fun i => (by rw [eH1147, aZ_sA_nc (by decide)] : aZ H1147 19 i = aZ H1116 19 i).trans (xm1137 i)
          have xm1155 : fZ H1147 0 34 = fZ H1073 0 34 := (by rw [eH1147, fZ_sA] : fZ H1147 0 34 = fZ H1116 0 34).trans xm1138
          have xm1156 : (∀ i, aZ H1147 23 i = aZ H1103 23 i) := fun i => (by rw [eH1147, aZ_sA_nc (by decide)] : aZ H1147 23 i = aZ H1116 23 i).trans (xm1140 i)
          have ie1149 : k1112.toInt = (fZ H1147 0 39).toInt := by rw [← e1149]
          refine g_aload_n rfl ?_
          refine g_gfr hIH1147 sm_0 rfl ?_
          refine g_aload_n rfl ?_
          refine g_gfk hIH1147 sm_0 rfl e1149 ?_
          refine g_aload_n rfl ?_
          refine g_gfr hIH1147 sm_0 rfl ?_
          refine g_aload_n rfl ?_
          refine g_gfr hIH1147 sm_0 rfl ?_
          refine g_iload_n rfl ?_
          refine g_iaload hIH1147 sm_19 rfl (by omega) (fun v1157 ev1157 lv1157 uv1157 => ?_)
          have zkv1157 : v1157.toInt.toNat = odM H1063 v1102.toInt.toNat := by rw [ev1157]; exact od_g (od_cg2 xm1154 xm1155 odH1073) (by omega)
          refine g_iaload hIH1147 sm_18 rfl (by omega) (fun v1158 ev1158 lv1158 uv1158 => ?_)
          have hzv1158 : v1158.toInt = (aZ H1063 18 v1157.toInt.toNat).toInt := by rw [ev1158, xm1151]
          refine g_iastore hIH1147 sm_23 (by omega) (gz_any _) (fun H1159 eH1159 hIH1159 => ?_)
          have hJH1159 : JM H1159 := JM_sA (by decide) eH1159 hJH1147
          have e1160 : k0_2 = fZ H1159 0 2 := by rw [eH1159, fZ_sA]; exact e1148
          have e1161 : k1112 = fZ H1159 0 39 := by rw [eH1159, fZ_sA]; exact e1149
          have m1162 : kpM H H1159 := kpM_A m1150 eH1159 (by omega)
          have wdH1159 : rwX H1159 (fM H1063 H1073 (v1102.toInt.toNat + 1)).1 (fM H1063 H1073 (v1102.toInt.toNat + 1)).2 := rw_o wdH1147 eH1159 (by decide)
          have xm1163 : (∀ i, aZ H1159 18 i = aZ H1063 18 i) := fun i => (by rw [eH1159, aZ_sA_nc (by decide)] : aZ H1159 18 i = aZ H1147 18 i).trans (xm1151 i)
          have xm1164 : (∀ i, aZ H1159 2 i = aZ H1063 2 i) := fun i => (by rw [eH1159, aZ_sA_nc (by decide)] : aZ H1159 2 i = aZ H1147 2 i).trans (xm1152 i)
          have xm1165 : (∀ i, aZ H1159 17 i = aZ H1063 17 i) := fun i => (by rw [eH1159, aZ_sA_nc (by decide)] : aZ H1159 17 i = aZ H1147 17 i).trans (xm1153 i)
          have xm1166 : (∀ i, aZ H1159 19 i = aZ H1073 19 i) := fun i => (by rw [eH1159, aZ_sA_nc (by decide)] : aZ H1159 19 i = aZ H1147 19 i).trans (xm1154 i)
          have xm1167 : fZ H1159 0 34 = fZ H1073 0 34 := (by rw [eH1159, fZ_sA] : fZ H1159 0 34 = fZ H1147 0 34).trans xm1155
          have ie1161 : k1112.toInt = (fZ H1159 0 39).toInt := by rw [← e1161]
          refine g_aload_n rfl ?_
          refine g_dup rfl ?_
          refine g_gfk hIH1159 sm_0 rfl e1161 ?_
          refine g_iconst (by decide) (fun v1168 kv1168 => ?_)
          refine g_iadd (by omega) (fun v1169 ev1169 => ?_)
          refine g_pfi hIH1159 sm_0 rfl (by omega) (fun H1170 eH1170 hIH1170 => ?_)
          have hJH1170 : JM H1170 := JM_sF eH1170 hJH1159
          have e1171 : k0_2 = fZ H1170 0 2 := by rw [eH1170, fZ_sF_ne (by decide)]; exact e1160
          have e1172 : v1169 = fZ H1170 0 39 := by rw [eH1170, fZ_sF_eq hIH1159 sm_0 rfl]
          have m1173 : kpM H H1170 := kpM_F m1162 eH1170 (by omega)
          have wdH1170 : rwX H1170 (fM H1063 H1073 (v1102.toInt.toNat + 1)).1 (fM H1063 H1073 (v1102.toInt.toNat + 1)).2 := rwX_F eH1170 wdH1159
          have xm1174 : (∀ i, aZ H1170 18 i = aZ H1063 18 i) := fun i => (by rw [eH1170, aZ_sF] : aZ H1170 18 i = aZ H1159 18 i).trans (xm1163 i)
          have xm1175 : (∀ i, aZ H1170 2 i = aZ H1063 2 i) := fun i => (by rw [eH1170, aZ_sF] : aZ H1170 2 i = aZ H1159 2 i).trans (xm1164 i)
          have xm1176 : (∀ i, aZ H1170 17 i = aZ H1063 17 i) := fun i => (by rw [eH1170, aZ_sF] : aZ H1170 17 i = aZ H1159 17 i).trans (xm1165 i)
          have xm1177 : (∀ i, aZ H1170 19 i = aZ H1073 19 i) := fun i => (by rw [eH1170, aZ_sF] : aZ H1170 19 i = aZ H1159 19 i).trans (xm1166 i)
          have xm1178 : fZ H1170 0 34 = fZ H1073 0 34 := (by rw [eH1170, fZ_sF_ne (by decide)] : fZ H1170 0 34 = fZ H1159 0 34).trans xm1167
          have ie1172 : v1169.toInt = (fZ H1170 0 39).toInt := by rw [← e1172]
          refine g_iload rfl ?_
          refine g_istore_n (l' := [(0, .ref 0), (1, .int a1), (2, .int v1144), (3, .int v1102), (4, .int v1144)]) rfl rfl ?_
          refine g_nop ?_
          refine g_iinc (l' := (fun v1179 => [(0, .ref 0), (1, .int a1), (2, .int v1144), (3, .int v1179), (4, .int v1144)])) rfl rfl (by decide) (by omega) (fun _ => rfl) (fun v1179 ev1179 => ?_)
          refine g_goto ?_
          refine gG_pick [0, 1, 2, 3] (l' := [(0, .ref 0), (1, .int a1), (2, .int v1144), (3, .int v1179)]) rfl ?_
          exact ihL1111 v1144 v1179 H1170 hIH1170 hJH1170 e1171 m1173 (by omega) (by omega) xm1174 xm1175 xm1176 xm1177 xm1178 (by omega) (by rw [show v1179.toInt.toNat = v1102.toInt.toNat + 1 by omega]; exact wdH1170) (by omega) (trw_n q6 (by omega) (by show whM _ _ _ ≠ _; omega) (by show _ = whM _ _ _; omega)) (trn_n q6 q7 (by omega) (by show whM _ _ _ ≠ _; omega) (by omega)) (tra_n q6 q9 xm1139 xm1140 hIH1116 hIH1147 eH1147 eH1159 eH1170 (by omega) (by omega) (by omega) (by show whM _ _ _ ≠ _; omega) (by show _ = whM _ _ _; omega) (by show _ = (aZ _ 18 (odM _ _)).toInt; rw [← zkv1157]; omega) (by omega)) (by omega)
        · refine g_goto ?_
          refine g_iinc (l' := (fun v1180 => [(0, .ref 0), (1, .int a1), (2, .int v1101), (3, .int v1180), (4, .int v1144)])) rfl rfl (by decide) (by omega) (fun _ => rfl) (fun v1180 ev1180 => ?_)
          refine g_goto ?_
          refine gG_pick [0, 1, 2, 3] (l' := [(0, .ref 0), (1, .int a1), (2, .int v1101), (3, .int v1180)]) rfl ?_
          exact ihL1111 v1101 v1180 H1116 hIH1116 hJH1116 e1131 m1133 (by omega) (by omega) xm1134 xm1135 xm1136 xm1137 xm1138 (by omega) (by rw [show v1180.toInt.toNat = v1102.toInt.toNat + 1 by omega]; exact wzp1141) (by omega) (trw_s q6 (by omega) (by show whM _ _ _ = _; omega) rfl) (trn_s q6 q7 (by omega) (by show whM _ _ _ = _; omega) (by omega)) (tra_s q6 q9 xm1139 xm1140 (by omega) (by show whM _ _ _ = _; omega)) (by omega)
  exact L1111 _ v1099 v1100 H1090 hIH1090 hJH1090 e1091 m1093 (by omega) (by omega) xm1094 xm1095 xm1096 xm1097 xm1098 (by omega) (by rw [kv1100]; exact wdH1090) (by omega) (tr0_w (by omega) (by omega)) (tr0_n (by omega) (by omega)) (tr0_a (by omega)) (Nat.lt_succ_self _)
