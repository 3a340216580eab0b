set_option maxRecDepth 4000 in
set_option maxHeartbeats 4000000 in
/-- M.bitsIn -/
theorem r_241 {s : pS} {md : Nat → Int} (a1 : Int32) (ha1 : 0 ≤ a1.toInt ∧ a1.toInt ≤ 39) (H : mzH) (hI : gI SM H) (hJ : JM H) (hp0 : rwX H s md) (hp1 : dpt s) : gCall 241 [.ref 0, .int a1] H (gRl (fun v H' => H = H' ∧ isS v (fun x => inn s x a1.toInt = 1) 40)) := by
  refine gG_call [(0, .ref 0), (1, .int a1)] ⟨rfl, rfl, trivial⟩ ?_
  show gG 5 zB_241 (mzBlk zB_241 0) [(0, .ref 0), (1, .int a1)] [] H 0 0 _
  refine g_lconst (fun v189 ov189 => ?_)
  refine g_lstore_n (l' := [(0, .ref 0), (1, .int a1), (2, .long v189)]) rfl rfl ?_
  refine g_iconst (by decide) (fun v190 kv190 => ?_)
  refine g_istore (l' := [(0, .ref 0), (1, .int a1), (2, .long v189), (4, .int v190)]) rfl rfl ?_
  refine g_nop ?_
  have L193 : ∀ (N : Nat) (v191 : Int64) (v192 : Int32), (0 ≤ v192.toInt ∧ v192.toInt ≤ 40) → isS v191 (fun x => inn s x a1.toInt = 1) v192.toInt.toNat → (40 - v192.toInt).toNat < N → gG 5 zB_241 (mzBlk zB_241 1) [(0, .ref 0), (1, .int a1), (2, .long v191), (4, .int v192)] [] H 0 0 (gRl (fun v H' => H = H' ∧ isS v (fun x => inn s x a1.toInt = 1) 40)) := by
    intro N
    induction N with
    | zero => intro v191 v192 bv192 q1 hmL193; exact absurd hmL193 (Nat.not_lt_zero _)
    | succ N ihL193 =>
      intro v191 v192 bv192 q1 hmL193
      refine g_iload rfl ?_
      refine g_bipush (by decide) (fun v194 kv194 => ?_)
      refine g_if2_ge (fun c195 => ?_) (fun c195 => ?_)
      · refine g_lload_n rfl ?_
        exact g_lret ⟨_, rfl, rfl, (is_e q1 (by omega))⟩
      · refine g_aload_n rfl ?_
        refine g_iload rfl ?_
        refine g_iload_n rfl ?_
        refine g_invvi hI sm_0 rfl rfl rfl rfl (r_186 v192 (by omega) a1 (by omega) H hI hJ hp0 hp1) (fun v198 H196 r197 => ?_)
        obtain ⟨rfl, bv198, p199⟩ := r197
        have ibv198 := inn_b (s := s) (n := v192.toInt.toNat) (o := a1.toInt)
        refine g_if_eq (fun c200 => ?_) (fun c200 => ?_)
        · refine g_iinc (l' := (fun v201 => [(0, .ref 0), (1, .int a1), (2, .long v191), (4, .int v201)])) rfl rfl (by decide) (by omega) (fun _ => rfl) (fun v201 ev201 => ?_)
          refine g_goto ?_
          exact ihL193 v191 v201 (by omega) (is_n q1 (by omega) (by show ¬ inn s v192.toInt.toNat a1.toInt = 1; omega)) (by omega)
        · refine g_lload_n rfl ?_
          refine g_lconst (fun v202 ov202 => ?_)
          refine g_iload rfl ?_
          refine g_lshl (fun v203 ov203 => ?_)
          refine g_lor (fun v204 ov204 => ?_)
          refine g_lstore_n (l' := [(0, .ref 0), (1, .int a1), (2, .long v204), (4, .int v192)]) rfl rfl ?_
          refine g_nop ?_
          refine g_iinc (l' := (fun v205 => [(0, .ref 0), (1, .int a1), (2, .long v204), (4, .int v205)])) rfl rfl (by decide) (by omega) (fun _ => rfl) (fun v205 ev205 => ?_)
          refine g_goto ?_
          exact ihL193 v204 v205 (by omega) (is_y q1 ov203 ov202 ov204 (by omega) rfl (by omega) (by show inn s v192.toInt.toNat a1.toInt = 1; omega)) (by omega)
  exact L193 _ v189 v190 (by omega) (is_0 ov189 (by omega)) (Nat.lt_succ_self _)
set_option maxRecDepth 4000 in
set_option maxHeartbeats 4000000 in
/-- M.still -/
theorem r_242 (a1 : Int32) (a2 : Int32) (H : mzH) (hI : gI SM H) (hJ : JN H) (hp0 : ((∀ A, tkW H A → gdM A))) : gCall 242 [.ref 0, .int a1, .int a2] H (gRi (fun v H' => gI SM H' ∧ JN H' ∧ fZ H' 0 2 = fZ H 0 2 ∧ kpM H H' ∧ ((v.toInt = -1 ∧ ¬ ((0 ≤ a1.toInt ∧ a1.toInt ≤ 39) ∧ (0 ≤ a2.toInt ∧ a2.toInt ≤ 999))) ∨ (((0 ≤ a1.toInt ∧ a1.toInt ≤ 39) ∧ (0 ≤ a2.toInt ∧ a2.toInt ≤ 999)) ∧ ∃ A : mzH, tkW H A ∧ ∃ G : mzH, clR (rgM G) (mdM G) ∧ (∃ p : Nat, stM A a2.toInt p ∧ (((fM A G p).2 a1.toInt.toNat = 0 ∧ v.toInt = -2) ∨ (¬ (fM A G p).2 a1.toInt.toNat = 0 ∧ ¬ (fM A G p).1.en a1.toInt.toNat = 0 ∧ v.toInt = -4) ∨ (¬ (fM A G p).2 a1.toInt.toNat = 0 ∧ (fM A G p).1.en a1.toInt.toNat = 0 ∧ stR (fun q => (¬ (fM A G (q + 1)).2 a1.toInt.toNat = 0 ∧ ((fM A G q).2 a1.toInt.toNat = 0 ∨ ¬ (∀ x, x < 40 → (inn (fM A G (q + 1)).1 x a1.toInt = 1 ↔ inn (fM A G q).1 x a1.toInt = 1))))) (hqM A) p v.toInt))))))) := by
  obtain ⟨k0_2, ek0_2⟩ : ∃ z, z = fZ H 0 2 := ⟨_, rfl⟩
  have ik0_2 : k0_2.toInt = (fZ H 0 2).toInt := by rw [← ek0_2]
  have bk0_2 : 0 ≤ k0_2.toInt ∧ k0_2.toInt ≤ 900 := by rw [ek0_2]; exact fZ_of hI sm_0 rfl
  have mkfr : kpM H H := kpM_r
  refine gG_call [(0, .ref 0), (1, .int a1), (2, .int a2)] ⟨rfl, rfl, rfl, trivial⟩ ?_
  show gG 8 zB_242 (mzBlk zB_242 0) [(0, .ref 0), (1, .int a1), (2, .int a2)] [] H 0 0 _
  refine g_aload_n rfl ?_
  refine g_iconst (by decide) (fun v1087 kv1087 => ?_)
  refine g_pfi hI sm_0 rfl (gz_any _) (fun H1088 eH1088 hIH1088 => ?_)
  have hJH1088 : JN H1088 := JN_sF eH1088 hJ
  have e1089 : k0_2 = fZ H1088 0 2 := by rw [eH1088, fZ_sF_ne (by decide)]; exact ek0_2
  have m1090 : kpM H H1088 := kpM_F mkfr eH1088 (by omega)
  refine g_iload_n rfl ?_
  refine g_invti rfl rfl rfl (r_205 a1 H1088 hIH1088 hJH1088) (fun v1093 H1091 r1092 => ?_)
  obtain ⟨rfl, bv1093, p1094⟩ := r1092
  refine g_if_eq (fun c1095 => ?_) (fun c1095 => ?_)
  · refine g_iconst (by decide) (fun v1096 kv1096 => ?_)
    exact g_iret ⟨_, rfl, hIH1088, hJH1088, (e1089.symm.trans ek0_2), m1090, (Or.inl ⟨by omega, by omega⟩)⟩
  · refine g_iload_n rfl ?_
    refine g_invti rfl rfl rfl (r_206 a2 H1088 hIH1088 hJH1088) (fun v1099 H1097 r1098 => ?_)
    obtain ⟨rfl, bv1099, p1100⟩ := r1098
    refine g_if_ne (fun c1101 => ?_) (fun c1101 => ?_)
    · refine g_aload_n rfl ?_
      refine g_invvv hIH1088 sm_0 rfl rfl rfl rfl (r_182 H1088 hIH1088 hJH1088) (fun H1102 r1103 => ?_)
      obtain ⟨hIH1102, hJH1102, m1104, m1105, m1106, m1107, p1108, p1109⟩ := r1103
      have e1110 : k0_2 = fZ H1102 0 2 := e1089.trans (m1104 0 2).symm
      have m1111 : kpM H H1102 := kpM_t m1090 m1106
      have tH1102 : tkW H H1102 := tk_kp m1090 ⟨m1106, m1105, p1109⟩
      have gmH1102 := hp0 H1102 tH1102
      refine g_aload_n rfl ?_
      refine g_invvv hIH1102 sm_0 rfl rfl rfl rfl (r_184 H1102 hIH1102 hJH1102) (fun H1112 r1113 => ?_)
      obtain ⟨hIH1112, hJH1112, w1114, m1115, m1116, m1117, m1118, m1119, p1120, p1121, p1122⟩ := r1113
      have e1123 : k0_2 = fZ H1112 0 2 := e1110.trans w1114.symm
      have m1124 : kpM H H1112 := kpM_t m1111 m1117
      have xm1125 : (∀ i, aZ H1112 18 i = aZ H1102 18 i) := fun i => (m1118 i : aZ H1112 18 i = aZ H1102 18 i).trans ((fun _ => rfl) i)
      have xm1126 : (∀ i, aZ H1112 2 i = aZ H1102 2 i) := fun i => (m1115 i : aZ H1112 2 i = aZ H1102 2 i).trans ((fun _ => rfl) i)
      have xm1127 : (∀ i, aZ H1112 17 i = aZ H1102 17 i) := fun i => (m1116 i : aZ H1112 17 i = aZ H1102 17 i).trans ((fun _ => rfl) i)
      have clH1112 := p1121
      have odH1112 := p1122
      have wdH1112 : rwX H1112 (fM H1102 H1112 0).1 (fM H1102 H1112 0).2 := rw_rd
      refine g_bipush (by decide) (fun v1128 kv1128 => ?_)
      refine g_istore_n (l' := [(0, .ref 0), (1, .int a1), (2, .int a2), (3, .int v1128)]) rfl rfl ?_
      refine g_iconst (by decide) (fun v1129 kv1129 => ?_)
      refine g_istore (l' := [(0, .ref 0), (1, .int a1), (2, .int a2), (3, .int v1128), (4, .int v1129)]) rfl rfl ?_
      refine g_nop ?_
      have L1140 : ∀ (N : Nat) (v1130 : Int32) (v1131 : Int32) (H1132 : mzH), gI SM H1132 → JM H1132 → k0_2 = fZ H1132 0 2 → kpM H H1132 → (0 ≤ v1131.toInt ∧ v1131.toInt ≤ 60) → (∀ i, aZ H1132 18 i = aZ H1102 18 i) → (∀ i, aZ H1132 2 i = aZ H1102 2 i) → (∀ i, aZ H1132 17 i = aZ H1102 17 i) → (∀ i, aZ H1132 19 i = aZ H1112 19 i) → fZ H1132 0 34 = fZ H1112 0 34 → rwX H1132 (fM H1102 H1112 v1131.toInt.toNat).1 (fM H1102 H1112 v1131.toInt.toNat).2 → v1131.toInt.toNat ≤ cnM H1102 → stR (fun q => (¬ (fM H1102 H1112 (q + 1)).2 a1.toInt.toNat = 0 ∧ ((fM H1102 H1112 q).2 a1.toInt.toNat = 0 ∨ ¬ (∀ x, x < 40 → (inn (fM H1102 H1112 (q + 1)).1 x a1.toInt = 1 ↔ inn (fM H1102 H1112 q).1 x a1.toInt = 1))))) (hqM H1102) v1131.toInt.toNat v1130.toInt → (∀ q : Nat, q < v1131.toInt.toNat → hqM H1102 q ≤ a2.toInt) → (60 - v1131.toInt).toNat < N → gG 8 zB_242 (mzBlk zB_242 3) [(0, .ref 0), (1, .int a1), (2, .int a2), (3, .int v1130), (4, .int v1131)] [] H1132 0 0 (gRi (fun v H' => gI SM H' ∧ JN H' ∧ fZ H' 0 2 = fZ H 0 2 ∧ kpM H H' ∧ ((v.toInt = -1 ∧ ¬ ((0 ≤ a1.toInt ∧ a1.toInt ≤ 39) ∧ (0 ≤ a2.toInt ∧ a2.toInt ≤ 999))) ∨ (((0 ≤ a1.toInt ∧ a1.toInt ≤ 39) ∧ (0 ≤ a2.toInt ∧ a2.toInt ≤ 999)) ∧ ∃ A : mzH, tkW H A ∧ ∃ G : mzH, clR (rgM G) (mdM G) ∧ (∃ p : Nat, stM A a2.toInt p ∧ (((fM A G p).2 a1.toInt.toNat = 0 ∧ v.toInt = -2) ∨ (¬ (fM A G p).2 a1.toInt.toNat = 0 ∧ ¬ (fM A G p).1.en a1.toInt.toNat = 0 ∧ v.toInt = -4) ∨ (¬ (fM A G p).2 a1.toInt.toNat = 0 ∧ (fM A G p).1.en a1.toInt.toNat = 0 ∧ stR (fun q => (¬ (fM A G (q + 1)).2 a1.toInt.toNat = 0 ∧ ((fM A G q).2 a1.toInt.toNat = 0 ∨ ¬ (∀ x, x < 40 → (inn (fM A G (q + 1)).1 x a1.toInt = 1 ↔ inn (fM A G q).1 x a1.toInt = 1))))) (hqM A) p v.toInt))))))) := by
        intro N
        induction N with
        | zero => intro v1130 v1131 H1132 hIH1132 hJH1132 e1133 m1134 bv1131 xq1135 xq1136 xq1137 xq1138 xq1139 q5 q8 q6 q7 hmL1140; exact absurd hmL1140 (Nat.not_lt_zero _)
        | succ N ihL1140 =>
          intro v1130 v1131 H1132 hIH1132 hJH1132 e1133 m1134 bv1131 xq1135 xq1136 xq1137 xq1138 xq1139 q5 q8 q6 q7 hmL1140
          refine g_iload rfl ?_
          refine g_aload_n rfl ?_
          refine g_gfi hIH1132 sm_0 rfl (fun v1141 ev1141 lv1141 uv1141 => ?_)
          have zv1141 : v1141.toInt = (cnM H1102 : Int) := by rw [ev1141]; exact od_n (od_cg2 xq1138 xq1139 odH1112)
          refine g_if2_ge (fun c1142 => ?_) (fun c1142 => ?_)
          · refine g_aload_n rfl ?_
            refine g_gfr hIH1132 sm_0 rfl ?_
            refine g_iload_n rfl ?_
            refine g_baload hIH1132 sm_7 rfl (by omega) (fun v1143 ev1143 lv1143 uv1143 => ?_)
            have yv1143 : v1143.toInt = (fM H1102 H1112 v1131.toInt.toNat).2 a1.toInt.toNat := by rw [ev1143]; exact (q5 _ (by omega)).1
            refine g_if_ne (fun c1144 => ?_) (fun c1144 => ?_)
            · refine g_aload_n rfl ?_
              refine g_gfr hIH1132 sm_0 rfl ?_
              refine g_iload_n rfl ?_
              refine g_baload hIH1132 sm_16 rfl (by omega) (fun v1145 ev1145 lv1145 uv1145 => ?_)
              have yv1145 : v1145.toInt = ((fM H1102 H1112 v1131.toInt.toNat).1).en a1.toInt.toNat := by rw [ev1145]; exact (q5 _ (by omega)).2.2.2.2.2.2.2.2.2
              refine g_if_eq (fun c1146 => ?_) (fun c1146 => ?_)
              · refine g_iload_n rfl ?_
                refine g_nop ?_
                exact g_iret ⟨_, rfl, hIH1132, (JM_n hJH1132), (e1133.symm.trans ek0_2), m1134, (Or.inr ⟨by omega, H1102, tH1102, H1112, clH1112, v1131.toInt.toNat, ⟨by omega, q7, by first | exact Or.inl (by omega) | exact Or.inr (by show _ < (aZ _ 18 (odM _ _)).toInt; omega)⟩, Or.inr (Or.inr ⟨by omega, by omega, q6⟩)⟩)⟩
              · refine g_bipush (by decide) (fun v1147 kv1147 => ?_)
                refine g_goto ?_
                exact g_iret ⟨_, rfl, hIH1132, (JM_n hJH1132), (e1133.symm.trans ek0_2), m1134, (Or.inr ⟨by omega, H1102, tH1102, H1112, clH1112, v1131.toInt.toNat, ⟨by omega, q7, by first | exact Or.inl (by omega) | exact Or.inr (by show _ < (aZ _ 18 (odM _ _)).toInt; omega)⟩, Or.inr (Or.inl ⟨by omega, by omega, by omega⟩)⟩)⟩
            · refine g_bipush (by decide) (fun v1148 kv1148 => ?_)
              refine g_goto ?_
              exact g_iret ⟨_, rfl, hIH1132, (JM_n hJH1132), (e1133.symm.trans ek0_2), m1134, (Or.inr ⟨by omega, H1102, tH1102, H1112, clH1112, v1131.toInt.toNat, ⟨by omega, q7, by first | exact Or.inl (by omega) | exact Or.inr (by show _ < (aZ _ 18 (odM _ _)).toInt; omega)⟩, Or.inl ⟨by omega, by omega⟩⟩)⟩
          · refine g_aload_n rfl ?_
            refine g_gfr hIH1132 sm_0 rfl ?_
            refine g_aload_n rfl ?_
            refine g_gfr hIH1132 sm_0 rfl ?_
            refine g_iload rfl ?_
            refine g_iaload hIH1132 sm_19 rfl (by omega) (fun v1149 ev1149 lv1149 uv1149 => ?_)
            have zkv1149 : v1149.toInt.toNat = odM H1102 v1131.toInt.toNat := by rw [ev1149]; exact od_g (od_cg2 xq1138 xq1139 odH1112) (by omega)
            refine g_iaload hIH1132 sm_18 rfl (by omega) (fun v1150 ev1150 lv1150 uv1150 => ?_)
            have hzv1150 : v1150.toInt = (aZ H1102 18 v1149.toInt.toNat).toInt := by rw [ev1150, xq1135]
            have hvv1150 : v1150.toInt = (aZ H1102 18 (odM H1102 v1131.toInt.toNat)).toInt := by rw [hzv1150, zkv1149]
            refine g_iload_n rfl ?_
            refine g_if2_gt (fun c1151 => ?_) (fun c1151 => ?_)
            · refine g_aload_n rfl ?_
              refine g_gfr hIH1132 sm_0 rfl ?_
              refine g_iload_n rfl ?_
              refine g_baload hIH1132 sm_7 rfl (by omega) (fun v1152 ev1152 lv1152 uv1152 => ?_)
              have yv1152 : v1152.toInt = (fM H1102 H1112 v1131.toInt.toNat).2 a1.toInt.toNat := by rw [ev1152]; exact (q5 _ (by omega)).1
              refine g_if_ne (fun c1153 => ?_) (fun c1153 => ?_)
              · refine g_aload_n rfl ?_
                refine g_gfr hIH1132 sm_0 rfl ?_
                refine g_iload_n rfl ?_
                refine g_baload hIH1132 sm_16 rfl (by omega) (fun v1154 ev1154 lv1154 uv1154 => ?_)
                have yv1154 : v1154.toInt = ((fM H1102 H1112 v1131.toInt.toNat).1).en a1.toInt.toNat := by rw [ev1154]; exact (q5 _ (by omega)).2.2.2.2.2.2.2.2.2
                refine g_if_eq (fun c1155 => ?_) (fun c1155 => ?_)
                · refine g_iload_n rfl ?_
                  refine g_nop ?_
                  exact g_iret ⟨_, rfl, hIH1132, (JM_n hJH1132), (e1133.symm.trans ek0_2), m1134, (Or.inr ⟨by omega, H1102, tH1102, H1112, clH1112, v1131.toInt.toNat, ⟨by omega, q7, by first | exact Or.inl (by omega) | exact Or.inr (by show _ < (aZ _ 18 (odM _ _)).toInt; omega)⟩, Or.inr (Or.inr ⟨by omega, by omega, q6⟩)⟩)⟩
                · refine g_bipush (by decide) (fun v1156 kv1156 => ?_)
                  refine g_goto ?_
                  exact g_iret ⟨_, rfl, hIH1132, (JM_n hJH1132), (e1133.symm.trans ek0_2), m1134, (Or.inr ⟨by omega, H1102, tH1102, H1112, clH1112, v1131.toInt.toNat, ⟨by omega, q7, by first | exact Or.inl (by omega) | exact Or.inr (by show _ < (aZ _ 18 (odM _ _)).toInt; omega)⟩, Or.inr (Or.inl ⟨by omega, by omega, by omega⟩)⟩)⟩
              · refine g_bipush (by decide) (fun v1157 kv1157 => ?_)
                refine g_goto ?_
                exact g_iret ⟨_, rfl, hIH1132, (JM_n hJH1132), (e1133.symm.trans ek0_2), m1134, (Or.inr ⟨by omega, H1102, tH1102, H1112, clH1112, v1131.toInt.toNat, ⟨by omega, q7, by first | exact Or.inl (by omega) | exact Or.inr (by show _ < (aZ _ 18 (odM _ _)).toInt; omega)⟩, Or.inl ⟨by omega, by omega⟩⟩)⟩
            · refine g_aload_n rfl ?_
              refine g_gfr hIH1132 sm_0 rfl ?_
              refine g_iload_n rfl ?_
              refine g_baload hIH1132 sm_7 rfl (by omega) (fun v1158 ev1158 lv1158 uv1158 => ?_)
              have yv1158 : v1158.toInt = (fM H1102 H1112 v1131.toInt.toNat).2 a1.toInt.toNat := by rw [ev1158]; exact (q5 _ (by omega)).1
              refine g_istore (l' := [(0, .ref 0), (1, .int a1), (2, .int a2), (3, .int v1130), (4, .int v1131), (5, .int v1158)]) rfl rfl ?_
              refine g_aload_n rfl ?_
              refine g_iload_n rfl ?_
              refine g_invvl hIH1132 sm_0 rfl rfl rfl rfl (r_241 a1 (by omega) H1132 hIH1132 hJH1132 q5 (gmH1102.2 H1112 clH1112 v1131.toInt.toNat (by omega)).1) (fun v1161 H1159 r1160 => ?_)
              obtain ⟨rfl, p1162⟩ := r1160
              refine g_lstore (l' := [(0, .ref 0), (1, .int a1), (2, .int a2), (3, .int v1130), (4, .int v1131), (5, .int v1158), (6, .long v1161)]) rfl rfl ?_
              refine g_aload_n rfl ?_
              refine g_aload_n rfl ?_
              refine g_gfr hIH1132 sm_0 rfl ?_
              refine g_iload rfl ?_
              refine g_ialoadk hIH1132 sm_19 rfl (by omega) ev1149 ?_
              refine g_invvv hIH1132 sm_0 rfl rfl rfl rfl (r_192 v1149 (by omega) H1132 hIH1132 hJH1132 q5 (gmH1102.2 H1112 clH1112 v1131.toInt.toNat (by omega)).1 (gmH1102.2 H1112 clH1112 v1131.toInt.toNat (by omega)).2 (by rw [xq1135, zkv1149]; exact gmH1102.1 v1131.toInt.toNat (by omega)) (bt_of hIH1132 q5)) (fun H1163 r1164 => ?_)
              obtain ⟨hIH1163, hJH1163, m1165, m1166, m1167, m1168, m1169, m1170, m1171, m1172, m1173, m1174, p1175, p1176, p1177⟩ := r1164
              have e1178 : k0_2 = fZ H1163 0 2 := e1133.trans (m1165 0 2).symm
              have m1179 : kpM H H1163 := kpM_t m1134 m1169
              have xm1180 : (∀ i, aZ H1163 18 i = aZ H1102 18 i) := fun i => (m1170 i : aZ H1163 18 i = aZ H1132 18 i).trans (xq1135 i)
              have xm1181 : (∀ i, aZ H1163 2 i = aZ H1102 2 i) := fun i => (m1166 i : aZ H1163 2 i = aZ H1132 2 i).trans (xq1136 i)
              have xm1182 : (∀ i, aZ H1163 17 i = aZ H1102 17 i) := fun i => (m1168 i : aZ H1163 17 i = aZ H1132 17 i).trans (xq1137 i)
              have xm1183 : (∀ i, aZ H1163 19 i = aZ H1112 19 i) := fun i => (m1167 i : aZ H1163 19 i = aZ H1132 19 i).trans (xq1138 i)
              have xm1184 : fZ H1163 0 34 = fZ H1112 0 34 := (m1165 0 34 : fZ H1163 0 34 = fZ H1132 0 34).trans xq1139
              have wzp1185 : rwX H1163 (fM H1102 H1112 (v1131.toInt.toNat + 1)).1 (fM H1102 H1112 (v1131.toInt.toNat + 1)).2 := fm_st (H := H1102) (kpM_d tH1102.1 m1134) xq1135 xq1136 p1175 zkv1149 (by omega) rfl
              obtain ⟨dpp1185, lap1185⟩ := gmH1102.2 H1112 clH1112 (v1131.toInt.toNat + 1) (by omega)
              refine g_aload_n rfl ?_
              refine g_gfr hIH1163 sm_0 rfl ?_
              refine g_iload_n rfl ?_
              refine g_baload hIH1163 sm_7 rfl (by omega) (fun v1186 ev1186 lv1186 uv1186 => ?_)
              have yv1186 : v1186.toInt = (fM H1102 H1112 (v1131.toInt.toNat + 1)).2 a1.toInt.toNat := by rw [ev1186]; exact (wzp1185 _ (by omega)).1
              refine g_if_eq (fun c1187 => ?_) (fun c1187 => ?_)
              · refine g_iinc (l' := (fun v1188 => [(0, .ref 0), (1, .int a1), (2, .int a2), (3, .int v1130), (4, .int v1188), (5, .int v1158), (6, .long v1161)])) rfl rfl (by decide) (by omega) (fun _ => rfl) (fun v1188 ev1188 => ?_)
                refine g_goto ?_
                refine gG_pick [0, 1, 2, 3, 4] (l' := [(0, .ref 0), (1, .int a1), (2, .int a2), (3, .int v1130), (4, .int v1188)]) rfl ?_
                exact ihL1140 v1130 v1188 H1163 hIH1163 hJH1163 e1178 m1179 (by omega) xm1180 xm1181 xm1182 xm1183 xm1184 (by rw [show v1188.toInt.toNat = v1131.toInt.toNat + 1 by omega]; exact wzp1185) (by omega) (sr_n q6 (by omega) (by show ¬ (¬ (fM H1102 H1112 (v1131.toInt.toNat + 1)).2 a1.toInt.toNat = 0 ∧ ((fM H1102 H1112 v1131.toInt.toNat).2 a1.toInt.toNat = 0 ∨ ¬ (∀ x, x < 40 → (inn (fM H1102 H1112 (v1131.toInt.toNat + 1)).1 x a1.toInt = 1 ↔ inn (fM H1102 H1112 v1131.toInt.toNat).1 x a1.toInt = 1)))); rintro ⟨y1, y2⟩; first | omega | exact y2.elim (fun y => by omega) (fun y => y (se.mp (by omega))))) (hm_st q7 (by omega) (by show (aZ _ 18 (odM _ _)).toInt ≤ _; omega)) (by omega)
              · refine g_iload rfl ?_
                refine g_if_eq (fun c1189 => ?_) (fun c1189 => ?_)
                · refine g_aload_n rfl ?_
                  refine g_gfr hIH1163 sm_0 rfl ?_
                  refine g_aload_n rfl ?_
                  refine g_gfr hIH1163 sm_0 rfl ?_
                  refine g_iload rfl ?_
                  refine g_iaload hIH1163 sm_19 rfl (by omega) (fun v1190 ev1190 lv1190 uv1190 => ?_)
                  have zkv1190 : v1190.toInt.toNat = odM H1102 v1131.toInt.toNat := by rw [ev1190]; exact od_g (od_cg2 xm1183 xm1184 odH1112) (by omega)
                  refine g_iaload hIH1163 sm_18 rfl (by omega) (fun v1191 ev1191 lv1191 uv1191 => ?_)
                  have hzv1191 : v1191.toInt = (aZ H1102 18 v1190.toInt.toNat).toInt := by rw [ev1191, xm1180]
                  have hvv1191 : v1191.toInt = (aZ H1102 18 (odM H1102 v1131.toInt.toNat)).toInt := by rw [hzv1191, zkv1190]
                  refine g_istore_n (l' := [(0, .ref 0), (1, .int a1), (2, .int a2), (3, .int v1191), (4, .int v1131), (5, .int v1158), (6, .long v1161)]) rfl rfl ?_
                  refine g_nop ?_
                  refine g_iinc (l' := (fun v1192 => [(0, .ref 0), (1, .int a1), (2, .int a2), (3, .int v1191), (4, .int v1192), (5, .int v1158), (6, .long v1161)])) rfl rfl (by decide) (by omega) (fun _ => rfl) (fun v1192 ev1192 => ?_)
                  refine g_goto ?_
                  refine gG_pick [0, 1, 2, 3, 4] (l' := [(0, .ref 0), (1, .int a1), (2, .int a2), (3, .int v1191), (4, .int v1192)]) rfl ?_
                  exact ihL1140 v1191 v1192 H1163 hIH1163 hJH1163 e1178 m1179 (by omega) xm1180 xm1181 xm1182 xm1183 xm1184 (by rw [show v1192.toInt.toNat = v1131.toInt.toNat + 1 by omega]; exact wzp1185) (by omega) (sr_y (p := v1131.toInt.toNat) (by omega) (by show (¬ (fM H1102 H1112 (v1131.toInt.toNat + 1)).2 a1.toInt.toNat = 0 ∧ ((fM H1102 H1112 v1131.toInt.toNat).2 a1.toInt.toNat = 0 ∨ ¬ (∀ x, x < 40 → (inn (fM H1102 H1112 (v1131.toInt.toNat + 1)).1 x a1.toInt = 1 ↔ inn (fM H1102 H1112 v1131.toInt.toNat).1 x a1.toInt = 1)))); refine ⟨by omega, ?_⟩; first | exact Or.inl (by omega) | exact Or.inr (fun y => absurd (se.mpr y) (by omega))) (by show _ = (aZ _ 18 (odM _ _)).toInt; omega)) (hm_st q7 (by omega) (by show (aZ _ 18 (odM _ _)).toInt ≤ _; omega)) (by omega)
                · refine g_aload_n rfl ?_
                  refine g_iload_n rfl ?_
                  refine g_invvl hIH1163 sm_0 rfl rfl rfl rfl (r_241 a1 (by omega) H1163 hIH1163 hJH1163 wzp1185 (gmH1102.2 H1112 clH1112 (v1131.toInt.toNat + 1) (by omega)).1) (fun v1195 H1193 r1194 => ?_)
                  obtain ⟨rfl, p1196⟩ := r1194
                  refine g_lload rfl ?_
                  refine g_lcmp (fun v1197 ov1197 => ?_)
                  have zv1197 := lcm_eq ov1197
                  have se := is_cmp p1196 p1162 zv1197
                  refine g_if_eq (fun c1198 => ?_) (fun c1198 => ?_)
                  · refine g_iinc (l' := (fun v1199 => [(0, .ref 0), (1, .int a1), (2, .int a2), (3, .int v1130), (4, .int v1199), (5, .int v1158), (6, .long v1161)])) rfl rfl (by decide) (by omega) (fun _ => rfl) (fun v1199 ev1199 => ?_)
                    refine g_goto ?_
                    refine gG_pick [0, 1, 2, 3, 4] (l' := [(0, .ref 0), (1, .int a1), (2, .int a2), (3, .int v1130), (4, .int v1199)]) rfl ?_
                    exact ihL1140 v1130 v1199 H1163 hIH1163 hJH1163 e1178 m1179 (by omega) xm1180 xm1181 xm1182 xm1183 xm1184 (by rw [show v1199.toInt.toNat = v1131.toInt.toNat + 1 by omega]; exact wzp1185) (by omega) (sr_n q6 (by omega) (by show ¬ (¬ (fM H1102 H1112 (v1131.toInt.toNat + 1)).2 a1.toInt.toNat = 0 ∧ ((fM H1102 H1112 v1131.toInt.toNat).2 a1.toInt.toNat = 0 ∨ ¬ (∀ x, x < 40 → (inn (fM H1102 H1112 (v1131.toInt.toNat + 1)).1 x a1.toInt = 1 ↔ inn (fM H1102 H1112 v1131.toInt.toNat).1 x a1.toInt = 1)))); rintro ⟨y1, y2⟩; first | omega | exact y2.elim (fun y => by omega) (fun y => y (se.mp (by omega))))) (hm_st q7 (by omega) (by show (aZ _ 18 (odM _ _)).toInt ≤ _; omega)) (by omega)
                  · refine g_nop ?_
                    refine g_aload_n rfl ?_
                    refine g_gfr hIH1163 sm_0 rfl ?_
                    refine g_aload_n rfl ?_
                    refine g_gfr hIH1163 sm_0 rfl ?_
                    refine g_iload rfl ?_
                    refine g_iaload hIH1163 sm_19 rfl (by omega) (fun v1200 ev1200 lv1200 uv1200 => ?_)
                    have zkv1200 : v1200.toInt.toNat = odM H1102 v1131.toInt.toNat := by rw [ev1200]; exact od_g (od_cg2 xm1183 xm1184 odH1112) (by omega)
                    refine g_iaload hIH1163 sm_18 rfl (by omega) (fun v1201 ev1201 lv1201 uv1201 => ?_)
                    have hzv1201 : v1201.toInt = (aZ H1102 18 v1200.toInt.toNat).toInt := by rw [ev1201, xm1180]
                    have hvv1201 : v1201.toInt = (aZ H1102 18 (odM H1102 v1131.toInt.toNat)).toInt := by rw [hzv1201, zkv1200]
                    refine g_istore_n (l' := [(0, .ref 0), (1, .int a1), (2, .int a2), (3, .int v1201), (4, .int v1131), (5, .int v1158), (6, .long v1161)]) rfl rfl ?_
                    refine g_nop ?_
                    refine g_iinc (l' := (fun v1202 => [(0, .ref 0), (1, .int a1), (2, .int a2), (3, .int v1201), (4, .int v1202), (5, .int v1158), (6, .long v1161)])) rfl rfl (by decide) (by omega) (fun _ => rfl) (fun v1202 ev1202 => ?_)
                    refine g_goto ?_
                    refine gG_pick [0, 1, 2, 3, 4] (l' := [(0, .ref 0), (1, .int a1), (2, .int a2), (3, .int v1201), (4, .int v1202)]) rfl ?_
                    exact ihL1140 v1201 v1202 H1163 hIH1163 hJH1163 e1178 m1179 (by omega) xm1180 xm1181 xm1182 xm1183 xm1184 (by rw [show v1202.toInt.toNat = v1131.toInt.toNat + 1 by omega]; exact wzp1185) (by omega) (sr_y (p := v1131.toInt.toNat) (by omega) (by show (¬ (fM H1102 H1112 (v1131.toInt.toNat + 1)).2 a1.toInt.toNat = 0 ∧ ((fM H1102 H1112 v1131.toInt.toNat).2 a1.toInt.toNat = 0 ∨ ¬ (∀ x, x < 40 → (inn (fM H1102 H1112 (v1131.toInt.toNat + 1)).1 x a1.toInt = 1 ↔ inn (fM H1102 H1112 v1131.toInt.toNat).1 x a1.toInt = 1)))); refine ⟨by omega, ?_⟩; first | exact Or.inl (by omega) | exact Or.inr (fun y => absurd (se.mpr y) (by omega))) (by show _ = (aZ _ 18 (odM _ _)).toInt; omega)) (hm_st q7 (by omega) (by show (aZ _ 18 (odM _ _)).toInt ≤ _; omega)) (by omega)
      exact L1140 _ v1128 v1129 H1112 hIH1112 hJH1112 e1123 m1124 (by omega) xm1125 xm1126 xm1127 (fun _ => rfl) rfl (by rw [kv1129]; exact wdH1112) (by omega) (sr_0 (by omega) (by omega)) (fun q hq => by omega) (Nat.lt_succ_self _)
    · refine g_nop ?_
      refine g_iconst (by decide) (fun v1203 kv1203 => ?_)
      exact g_iret ⟨_, rfl, hIH1088, hJH1088, (e1089.symm.trans ek0_2), m1090, (Or.inl ⟨by omega, by omega⟩)⟩
