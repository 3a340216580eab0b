set_option maxRecDepth 4000 in
set_option maxHeartbeats 4000000 in
/-- M.manyAt -/
theorem r_248 {s : pS} {md : Nat → Int} (a1 : Int32) (H : mzH) (hI : gI SM H) (hJ : JM H) (hp0 : rwX H s md) (hp1 : dpt s) : gCall 248 [.ref 0, .int a1] H (gRi (fun v H' => H = H' ∧ v.toInt = cnt (fun x => whM s md x = a1.toInt) 40)) := by
  refine gG_call [(0, .ref 0), (1, .int a1)] ⟨rfl, rfl, trivial⟩ ?_
  show gG 4 zB_248 (mzBlk zB_248 0) [(0, .ref 0), (1, .int a1)] [] H 0 0 _
  refine g_iconst (by decide) (fun v489 kv489 => ?_)
  refine g_istore_n (l' := [(0, .ref 0), (1, .int a1), (2, .int v489)]) rfl rfl ?_
  refine g_iconst (by decide) (fun v490 kv490 => ?_)
  refine g_istore_n (l' := [(0, .ref 0), (1, .int a1), (2, .int v489), (3, .int v490)]) rfl rfl ?_
  refine g_nop ?_
  have L493 : ∀ (N : Nat) (v491 : Int32) (v492 : Int32), (0 ≤ v492.toInt ∧ v492.toInt ≤ 40) → v491.toInt = cnt (fun x => whM s md x = a1.toInt) v492.toInt.toNat → (0 ≤ v491.toInt ∧ v491.toInt ≤ v492.toInt) → (40 - v492.toInt).toNat < N → gG 4 zB_248 (mzBlk zB_248 1) [(0, .ref 0), (1, .int a1), (2, .int v491), (3, .int v492)] [] H 0 0 (gRi (fun v H' => H = H' ∧ v.toInt = cnt (fun x => whM s md x = a1.toInt) 40)) := by
    intro N
    induction N with
    | zero => intro v491 v492 bv492 q1 q2 hmL493; exact absurd hmL493 (Nat.not_lt_zero _)
    | succ N ihL493 =>
      intro v491 v492 bv492 q1 q2 hmL493
      refine g_iload_n rfl ?_
      refine g_bipush (by decide) (fun v494 kv494 => ?_)
      refine g_if2_ge (fun c495 => ?_) (fun c495 => ?_)
      · refine g_iload_n rfl ?_
        exact g_iret ⟨_, rfl, rfl, (cn_end q1 (by omega))⟩
      · refine g_iload_n rfl ?_
        refine g_aload_n rfl ?_
        refine g_iload_n rfl ?_
        refine g_invvi hI sm_0 rfl rfl rfl rfl (r_201 v492 (by omega) H hI hJ hp0 hp1) (fun v498 H496 r497 => ?_)
        obtain ⟨rfl, bv498, p499⟩ := r497
        refine g_iload_n rfl ?_
        refine g_if2_ne (fun c500 => ?_) (fun c500 => ?_)
        · refine g_iconst (by decide) (fun v501 kv501 => ?_)
          refine g_nop ?_
          refine g_iadd (by have := gz_any v491; omega) (fun v502 ev502 => ?_)
          refine g_istore_n (l' := [(0, .ref 0), (1, .int a1), (2, .int v502), (3, .int v492)]) rfl rfl ?_
          refine g_iinc (l' := (fun v503 => [(0, .ref 0), (1, .int a1), (2, .int v502), (3, .int v503)])) rfl rfl (by decide) (by omega) (fun _ => rfl) (fun v503 ev503 => ?_)
          refine g_goto ?_
          exact ihL493 v502 v503 (by omega) (cn_n q1 (by omega) (by show ¬ (whM s md v492.toInt.toNat = a1.toInt); omega) (by omega)) (by omega) (by omega)
        · refine g_iconst (by decide) (fun v504 kv504 => ?_)
          refine g_goto ?_
          refine g_iadd' (fun v505 ov505 => ?_)
          have sv505 : v505.toInt = v491.toInt + v504.toInt := gz_add_of ov505 (by omega)
          refine g_istore_n (l' := [(0, .ref 0), (1, .int a1), (2, .int v505), (3, .int v492)]) rfl rfl ?_
          refine g_iinc (l' := (fun v506 => [(0, .ref 0), (1, .int a1), (2, .int v505), (3, .int v506)])) rfl rfl (by decide) (by omega) (fun _ => rfl) (fun v506 ev506 => ?_)
          refine g_goto ?_
          exact ihL493 v505 v506 (by omega) (cn_y q1 (by omega) (by show (whM s md v492.toInt.toNat = a1.toInt); omega) (by omega)) (by omega) (by omega)
  exact L493 _ v489 v490 (by omega) (cn_0 (by omega) (by omega)) (by omega) (Nat.lt_succ_self _)
set_option maxRecDepth 4000 in
set_option maxHeartbeats 4000000 in
/-- M.busy -/
theorem r_249 (a1 : Int32) (a2 : Int32) (H : mzH) (hI : gI SM H) (hJ : JN H) (hp0 : ((∀ A, tkW H A → gdM A))) : gCall 249 [.ref 0, .int a1, .int a2] H (gRi (fun v H' => gI SM H' ∧ JN H' ∧ fZ H' 0 2 = fZ H 0 2 ∧ kpM H H' ∧ ((v.toInt = -1 ∧ ¬ ((a1.toInt = -4 ∨ a1.toInt = -3 ∨ (0 ≤ a1.toInt ∧ a1.toInt < (aZ H 2 0).toInt)) ∧ (0 ≤ a2.toInt ∧ a2.toInt ≤ 1))) ∨ (((a1.toInt = -4 ∨ a1.toInt = -3 ∨ (0 ≤ a1.toInt ∧ a1.toInt < (aZ H 2 0).toInt)) ∧ (0 ≤ a2.toInt ∧ a2.toInt ≤ 1)) ∧ (∃ A : mzH, tkW H A ∧ ∃ G : mzH, clR (rgM G) (mdM G) ∧ v.toInt = bzA (bzS (fun p => cnt (fun x => whM (fM A G (p + 1)).1 (fM A G (p + 1)).2 x = a1.toInt) 40) (hqM A) (cnM A)) a2.toInt))))) := by
  obtain ⟨k0_2, ek0_2⟩ : ∃ z, z = fZ H 0 2 := ⟨_, rfl⟩
  have ik0_2 : k0_2.toInt = (fZ H 0 2).toInt := by rw [← ek0_2]
  have bk0_2 : 0 ≤ k0_2.toInt ∧ k0_2.toInt ≤ 900 := by rw [ek0_2]; exact fZ_of hI sm_0 rfl
  have mkfr : kpM H H := kpM_r
  refine gG_call [(0, .ref 0), (1, .int a1), (2, .int a2)] ⟨rfl, rfl, rfl, trivial⟩ ?_
  show gG 7 zB_249 (mzBlk zB_249 0) [(0, .ref 0), (1, .int a1), (2, .int a2)] [] H 0 0 _
  refine g_aload_n rfl ?_
  refine g_iconst (by decide) (fun v1085 kv1085 => ?_)
  refine g_pfi hI sm_0 rfl (gz_any _) (fun H1086 eH1086 hIH1086 => ?_)
  have hJH1086 : JN H1086 := JN_sF eH1086 hJ
  have e1087 : k0_2 = fZ H1086 0 2 := by rw [eH1086, fZ_sF_ne (by decide)]; exact ek0_2
  have m1088 : kpM H H1086 := kpM_F mkfr eH1086 (by omega)
  refine g_aload_n rfl ?_
  refine g_iload_n rfl ?_
  refine g_invvi hIH1086 sm_0 rfl rfl rfl rfl (r_210 a1 H1086 hIH1086 hJH1086) (fun v1091 H1089 r1090 => ?_)
  obtain ⟨rfl, bv1091, p1092, p1093⟩ := r1090
  rw [m1088.1 2 (by decide)] at p1092
  refine g_if_ne (fun c1094 => ?_) (fun c1094 => ?_)
  · refine g_iload_n rfl ?_
    refine g_if_lt (fun c1095 => ?_) (fun c1095 => ?_)
    · refine g_iconst (by decide) (fun v1096 kv1096 => ?_)
      exact g_iret ⟨_, rfl, hIH1086, hJH1086, (e1087.symm.trans ek0_2), m1088, (Or.inl ⟨by omega, by omega⟩)⟩
    · refine g_iload_n rfl ?_
      refine g_iconst (by decide) (fun v1097 kv1097 => ?_)
      refine g_if2_le (fun c1098 => ?_) (fun c1098 => ?_)
      · refine g_aload_n rfl ?_
        refine g_invvv hIH1086 sm_0 rfl rfl rfl rfl (r_182 H1086 hIH1086 hJH1086) (fun H1099 r1100 => ?_)
        obtain ⟨hIH1099, hJH1099, m1101, m1102, m1103, m1104, p1105, p1106⟩ := r1100
        have e1107 : k0_2 = fZ H1099 0 2 := e1087.trans (m1101 0 2).symm
        have m1108 : kpM H H1099 := kpM_t m1088 m1103
        have tH1099 : tkW H H1099 := tk_kp m1088 ⟨m1103, m1102, p1106⟩
        have gmH1099 := hp0 H1099 tH1099
        refine g_aload_n rfl ?_
        refine g_invvv hIH1099 sm_0 rfl rfl rfl rfl (r_184 H1099 hIH1099 hJH1099) (fun H1109 r1110 => ?_)
        obtain ⟨hIH1109, hJH1109, w1111, m1112, m1113, m1114, m1115, m1116, p1117, p1118, p1119⟩ := r1110
        have e1120 : k0_2 = fZ H1109 0 2 := e1107.trans w1111.symm
        have m1121 : kpM H H1109 := kpM_t m1108 m1114
        have xm1122 : (∀ i, aZ H1109 18 i = aZ H1099 18 i) := fun i => (m1115 i : aZ H1109 18 i = aZ H1099 18 i).trans ((fun _ => rfl) i)
        have xm1123 : (∀ i, aZ H1109 2 i = aZ H1099 2 i) := fun i => (m1112 i : aZ H1109 2 i = aZ H1099 2 i).trans ((fun _ => rfl) i)
        have xm1124 : (∀ i, aZ H1109 17 i = aZ H1099 17 i) := fun i => (m1113 i : aZ H1109 17 i = aZ H1099 17 i).trans ((fun _ => rfl) i)
        have clH1109 := p1118
        have odH1109 := p1119
        have wdH1109 : rwX H1109 (fM H1099 H1109 0).1 (fM H1099 H1109 0).2 := rw_rd
        refine g_iconst (by decide) (fun v1125 kv1125 => ?_)
        refine g_istore_n (l' := [(0, .ref 0), (1, .int a1), (2, .int a2), (3, .int v1125)]) rfl rfl ?_
        refine g_bipush (by decide) (fun v1126 kv1126 => ?_)
        refine g_istore (l' := [(0, .ref 0), (1, .int a1), (2, .int a2), (3, .int v1125), (4, .int v1126)]) rfl rfl ?_
        refine g_iconst (by decide) (fun v1127 kv1127 => ?_)
        refine g_istore (l' := [(0, .ref 0), (1, .int a1), (2, .int a2), (3, .int v1125), (4, .int v1126), (5, .int v1127)]) rfl rfl ?_
        refine g_nop ?_
        have L1139 : ∀ (N : Nat) (v1128 : Int32) (v1129 : Int32) (v1130 : Int32) (H1131 : mzH), gI SM H1131 → JM H1131 → k0_2 = fZ H1131 0 2 → kpM H H1131 → (-1 ≤ v1128.toInt ∧ v1128.toInt ≤ 2147483647) → (0 ≤ v1130.toInt ∧ v1130.toInt ≤ 60) → (∀ i, aZ H1131 18 i = aZ H1099 18 i) → (∀ i, aZ H1131 2 i = aZ H1099 2 i) → (∀ i, aZ H1131 17 i = aZ H1099 17 i) → (∀ i, aZ H1131 19 i = aZ H1109 19 i) → fZ H1131 0 34 = fZ H1109 0 34 → rwX H1131 (fM H1099 H1109 v1130.toInt.toNat).1 (fM H1099 H1109 v1130.toInt.toNat).2 → v1130.toInt.toNat ≤ cnM H1099 → (v1128.toInt = (bzS (fun p => cnt (fun x => whM (fM H1099 H1109 (p + 1)).1 (fM H1099 H1109 (p + 1)).2 x = a1.toInt) 40) (hqM H1099) v1130.toInt.toNat).1 ∧ v1129.toInt = (bzS (fun p => cnt (fun x => whM (fM H1099 H1109 (p + 1)).1 (fM H1099 H1109 (p + 1)).2 x = a1.toInt) 40) (hqM H1099) v1130.toInt.toNat).2) → -1 ≤ v1128.toInt → (60 - v1130.toInt).toNat < N → gG 7 zB_249 (mzBlk zB_249 4) [(0, .ref 0), (1, .int a1), (2, .int a2), (3, .int v1128), (4, .int v1129), (5, .int v1130)] [] H1131 0 0 (gRi (fun v H' => gI SM H' ∧ JN H' ∧ fZ H' 0 2 = fZ H 0 2 ∧ kpM H H' ∧ ((v.toInt = -1 ∧ ¬ ((a1.toInt = -4 ∨ a1.toInt = -3 ∨ (0 ≤ a1.toInt ∧ a1.toInt < (aZ H 2 0).toInt)) ∧ (0 ≤ a2.toInt ∧ a2.toInt ≤ 1))) ∨ (((a1.toInt = -4 ∨ a1.toInt = -3 ∨ (0 ≤ a1.toInt ∧ a1.toInt < (aZ H 2 0).toInt)) ∧ (0 ≤ a2.toInt ∧ a2.toInt ≤ 1)) ∧ (∃ A : mzH, tkW H A ∧ ∃ G : mzH, clR (rgM G) (mdM G) ∧ v.toInt = bzA (bzS (fun p => cnt (fun x => whM (fM A G (p + 1)).1 (fM A G (p + 1)).2 x = a1.toInt) 40) (hqM A) (cnM A)) a2.toInt))))) := by
          intro N
          induction N with
          | zero => intro v1128 v1129 v1130 H1131 hIH1131 hJH1131 e1132 m1133 bv1128 bv1130 xq1134 xq1135 xq1136 xq1137 xq1138 q5 q8 q6 q7 hmL1139; exact absurd hmL1139 (Nat.not_lt_zero _)
          | succ N ihL1139 =>
            intro v1128 v1129 v1130 H1131 hIH1131 hJH1131 e1132 m1133 bv1128 bv1130 xq1134 xq1135 xq1136 xq1137 xq1138 q5 q8 q6 q7 hmL1139
            refine g_iload rfl ?_
            refine g_aload_n rfl ?_
            refine g_gfi hIH1131 sm_0 rfl (fun v1140 ev1140 lv1140 uv1140 => ?_)
            have zv1140 : v1140.toInt = (cnM H1099 : Int) := by rw [ev1140]; exact od_n (od_cg2 xq1137 xq1138 odH1109)
            refine g_if2_ge (fun c1141 => ?_) (fun c1141 => ?_)
            · refine g_iload_n rfl ?_
              refine g_iconst (by decide) (fun v1142 kv1142 => ?_)
              refine g_if2_ne (fun c1143 => ?_) (fun c1143 => ?_)
              · refine g_iload_n rfl ?_
                refine g_iconst (by decide) (fun v1144 kv1144 => ?_)
                refine g_if2_ne (fun c1145 => ?_) (fun c1145 => ?_)
                · refine g_iload_n rfl ?_
                  refine g_nop ?_
                  exact g_iret ⟨_, rfl, hIH1131, (JM_n hJH1131), (e1132.symm.trans ek0_2), m1133, (Or.inr ⟨by omega, H1099, tH1099, H1109, clH1109, by rw [show cnM H1099 = v1130.toInt.toNat by omega]; unfold bzA; rw [if_pos (by omega)]; split <;> omega⟩)⟩
                · refine g_iconst (by decide) (fun v1146 kv1146 => ?_)
                  refine g_goto ?_
                  exact g_iret ⟨_, rfl, hIH1131, (JM_n hJH1131), (e1132.symm.trans ek0_2), m1133, (Or.inr ⟨by omega, H1099, tH1099, H1109, clH1109, by rw [show cnM H1099 = v1130.toInt.toNat by omega]; unfold bzA; rw [if_pos (by omega)]; split <;> omega⟩)⟩
              · refine g_iload rfl ?_
                refine g_goto ?_
                exact g_iret ⟨_, rfl, hIH1131, (JM_n hJH1131), (e1132.symm.trans ek0_2), m1133, (Or.inr ⟨by omega, H1099, tH1099, H1109, clH1109, by rw [show cnM H1099 = v1130.toInt.toNat by omega]; unfold bzA; rw [if_neg (by omega)]; exact q6.2⟩)⟩
            · refine g_aload_n rfl ?_
              refine g_aload_n rfl ?_
              refine g_gfr hIH1131 sm_0 rfl ?_
              refine g_iload rfl ?_
              refine g_iaload hIH1131 sm_19 rfl (by omega) (fun v1147 ev1147 lv1147 uv1147 => ?_)
              have zkv1147 : v1147.toInt.toNat = odM H1099 v1130.toInt.toNat := by rw [ev1147]; exact od_g (od_cg2 xq1137 xq1138 odH1109) (by omega)
              refine g_invvv hIH1131 sm_0 rfl rfl rfl rfl (r_192 v1147 (by omega) H1131 hIH1131 hJH1131 q5 (gmH1099.2 H1109 clH1109 v1130.toInt.toNat (by omega)).1 (gmH1099.2 H1109 clH1109 v1130.toInt.toNat (by omega)).2 (by rw [xq1134, zkv1147]; exact gmH1099.1 v1130.toInt.toNat (by omega)) (bt_of hIH1131 q5)) (fun H1148 r1149 => ?_)
              obtain ⟨hIH1148, hJH1148, m1150, m1151, m1152, m1153, m1154, m1155, m1156, m1157, m1158, m1159, p1160, p1161, p1162⟩ := r1149
              have e1163 : k0_2 = fZ H1148 0 2 := e1132.trans (m1150 0 2).symm
              have m1164 : kpM H H1148 := kpM_t m1133 m1154
              have xm1165 : (∀ i, aZ H1148 18 i = aZ H1099 18 i) := fun i => (m1155 i : aZ H1148 18 i = aZ H1131 18 i).trans (xq1134 i)
              have xm1166 : (∀ i, aZ H1148 2 i = aZ H1099 2 i) := fun i => (m1151 i : aZ H1148 2 i = aZ H1131 2 i).trans (xq1135 i)
              have xm1167 : (∀ i, aZ H1148 17 i = aZ H1099 17 i) := fun i => (m1153 i : aZ H1148 17 i = aZ H1131 17 i).trans (xq1136 i)
              have xm1168 : (∀ i, aZ H1148 19 i = aZ H1109 19 i) := fun i => (m1152 i : aZ H1148 19 i = aZ H1131 19 i).trans (xq1137 i)
              have xm1169 : fZ H1148 0 34 = fZ H1109 0 34 := (m1150 0 34 : fZ H1148 0 34 = fZ H1131 0 34).trans xq1138
              have wzp1170 : rwX H1148 (fM H1099 H1109 (v1130.toInt.toNat + 1)).1 (fM H1099 H1109 (v1130.toInt.toNat + 1)).2 := fm_st (H := H1099) (kpM_d tH1099.1 m1133) xq1134 xq1135 p1160 zkv1147 (by omega) rfl
              obtain ⟨dpp1170, lap1170⟩ := gmH1099.2 H1109 clH1109 (v1130.toInt.toNat + 1) (by omega)
              refine g_aload_n rfl ?_
              refine g_iload_n rfl ?_
              refine g_invvi hIH1148 sm_0 rfl rfl rfl rfl (r_248 a1 H1148 hIH1148 hJH1148 wzp1170 dpp1170) (fun v1173 H1171 r1172 => ?_)
              obtain ⟨rfl, p1174⟩ := r1172
              have cbv1173 := cnt_b (p := fun x => whM (fM H1099 H1109 (v1130.toInt.toNat + 1)).1 (fM H1099 H1109 (v1130.toInt.toNat + 1)).2 x = a1.toInt) 40
              refine g_istore (l' := [(0, .ref 0), (1, .int a1), (2, .int a2), (3, .int v1128), (4, .int v1129), (5, .int v1130), (6, .int v1173)]) rfl rfl ?_
              refine g_iload rfl ?_
              refine g_iload_n rfl ?_
              refine g_if2_gt (fun c1175 => ?_) (fun c1175 => ?_)
              · refine g_iload rfl ?_
                refine g_istore_n (l' := [(0, .ref 0), (1, .int a1), (2, .int a2), (3, .int v1173), (4, .int v1129), (5, .int v1130), (6, .int v1173)]) rfl rfl ?_
                refine g_aload_n rfl ?_
                refine g_gfr hIH1148 sm_0 rfl ?_
                refine g_aload_n rfl ?_
                refine g_gfr hIH1148 sm_0 rfl ?_
                refine g_iload rfl ?_
                refine g_iaload hIH1148 sm_19 rfl (by omega) (fun v1176 ev1176 lv1176 uv1176 => ?_)
                have zkv1176 : v1176.toInt.toNat = odM H1099 v1130.toInt.toNat := by rw [ev1176]; exact od_g (od_cg2 xm1168 xm1169 odH1109) (by omega)
                refine g_iaload hIH1148 sm_18 rfl (by omega) (fun v1177 ev1177 lv1177 uv1177 => ?_)
                have hzv1177 : v1177.toInt = (aZ H1099 18 v1176.toInt.toNat).toInt := by rw [ev1177, xm1165]
                refine g_istore (l' := [(0, .ref 0), (1, .int a1), (2, .int a2), (3, .int v1173), (4, .int v1177), (5, .int v1130), (6, .int v1173)]) rfl rfl ?_
                refine g_nop ?_
                refine g_iinc (l' := (fun v1178 => [(0, .ref 0), (1, .int a1), (2, .int a2), (3, .int v1173), (4, .int v1177), (5, .int v1178), (6, .int v1173)])) rfl rfl (by decide) (by omega) (fun _ => rfl) (fun v1178 ev1178 => ?_)
                refine g_goto ?_
                refine gG_pick [0, 1, 2, 3, 4, 5] (l' := [(0, .ref 0), (1, .int a1), (2, .int a2), (3, .int v1173), (4, .int v1177), (5, .int v1178)]) rfl ?_
                exact ihL1139 v1173 v1177 v1178 H1148 hIH1148 hJH1148 e1163 m1164 (by have := gz_any v1173; omega) (by omega) xm1165 xm1166 xm1167 xm1168 xm1169 (by rw [show v1178.toInt.toNat = v1130.toInt.toNat + 1 by omega]; exact wzp1170) (by omega) (bz_n q6 (by omega) (by show _ < cnt _ 40; omega) (by show _ = cnt _ 40; omega) (by show _ = (aZ _ 18 (odM _ _)).toInt; rw [← zkv1176]; omega)) (by omega) (by omega)
              · refine g_goto ?_
                refine g_iinc (l' := (fun v1179 => [(0, .ref 0), (1, .int a1), (2, .int a2), (3, .int v1128), (4, .int v1129), (5, .int v1179), (6, .int v1173)])) rfl rfl (by decide) (by omega) (fun _ => rfl) (fun v1179 ev1179 => ?_)
                refine g_goto ?_
                refine gG_pick [0, 1, 2, 3, 4, 5] (l' := [(0, .ref 0), (1, .int a1), (2, .int a2), (3, .int v1128), (4, .int v1129), (5, .int v1179)]) rfl ?_
                exact ihL1139 v1128 v1129 v1179 H1148 hIH1148 hJH1148 e1163 m1164 (by have := gz_any v1128; omega) (by omega) xm1165 xm1166 xm1167 xm1168 xm1169 (by rw [show v1179.toInt.toNat = v1130.toInt.toNat + 1 by omega]; exact wzp1170) (by omega) (bz_s q6 (by omega) (by show cnt _ 40 ≤ _; omega)) (by omega) (by omega)
        exact L1139 _ v1125 v1126 v1127 H1109 hIH1109 hJH1109 e1120 m1121 (by have := gz_any v1125; omega) (by omega) xm1122 xm1123 xm1124 (fun _ => rfl) rfl (by rw [kv1127]; exact wdH1109) (by omega) (bz_0 (by omega) (by omega) (by omega)) (by omega) (Nat.lt_succ_self _)
      · refine g_nop ?_
        refine g_iconst (by decide) (fun v1180 kv1180 => ?_)
        exact g_iret ⟨_, rfl, hIH1086, hJH1086, (e1087.symm.trans ek0_2), m1088, (Or.inl ⟨by omega, by omega⟩)⟩
  · refine g_iload_n rfl ?_
    refine g_bipush (by decide) (fun v1181 kv1181 => ?_)
    refine g_if2_eq (fun c1182 => ?_) (fun c1182 => ?_)
    · refine g_iload_n rfl ?_
      refine g_if_lt (fun c1183 => ?_) (fun c1183 => ?_)
      · refine g_iconst (by decide) (fun v1184 kv1184 => ?_)
        exact g_iret ⟨_, rfl, hIH1086, hJH1086, (e1087.symm.trans ek0_2), m1088, (Or.inl ⟨by omega, by omega⟩)⟩
      · refine g_iload_n rfl ?_
        refine g_iconst (by decide) (fun v1185 kv1185 => ?_)
        refine g_if2_le (fun c1186 => ?_) (fun c1186 => ?_)
        · refine g_aload_n rfl ?_
          refine g_invvv hIH1086 sm_0 rfl rfl rfl rfl (r_182 H1086 hIH1086 hJH1086) (fun H1187 r1188 => ?_)
          obtain ⟨hIH1187, hJH1187, m1189, m1190, m1191, m1192, p1193, p1194⟩ := r1188
          have e1195 : k0_2 = fZ H1187 0 2 := e1087.trans (m1189 0 2).symm
          have m1196 : kpM H H1187 := kpM_t m1088 m1191
          have tH1187 : tkW H H1187 := tk_kp m1088 ⟨m1191, m1190, p1194⟩
          have gmH1187 := hp0 H1187 tH1187
          refine g_aload_n rfl ?_
          refine g_invvv hIH1187 sm_0 rfl rfl rfl rfl (r_184 H1187 hIH1187 hJH1187) (fun H1197 r1198 => ?_)
          obtain ⟨hIH1197, hJH1197, w1199, m1200, m1201, m1202, m1203, m1204, p1205, p1206, p1207⟩ := r1198
          have e1208 : k0_2 = fZ H1197 0 2 := e1195.trans w1199.symm
          have m1209 : kpM H H1197 := kpM_t m1196 m1202
          have xm1210 : (∀ i, aZ H1197 18 i = aZ H1187 18 i) := fun i => (m1203 i : aZ H1197 18 i = aZ H1187 18 i).trans ((fun _ => rfl) i)
          have xm1211 : (∀ i, aZ H1197 2 i = aZ H1187 2 i) := fun i => (m1200 i : aZ H1197 2 i = aZ H1187 2 i).trans ((fun _ => rfl) i)
          have xm1212 : (∀ i, aZ H1197 17 i = aZ H1187 17 i) := fun i => (m1201 i : aZ H1197 17 i = aZ H1187 17 i).trans ((fun _ => rfl) i)
          have clH1197 := p1206
          have odH1197 := p1207
          have wdH1197 : rwX H1197 (fM H1187 H1197 0).1 (fM H1187 H1197 0).2 := rw_rd
          refine g_iconst (by decide) (fun v1213 kv1213 => ?_)
          refine g_istore_n (l' := [(0, .ref 0), (1, .int a1), (2, .int a2), (3, .int v1213)]) rfl rfl ?_
          refine g_bipush (by decide) (fun v1214 kv1214 => ?_)
          refine g_istore (l' := [(0, .ref 0), (1, .int a1), (2, .int a2), (3, .int v1213), (4, .int v1214)]) rfl rfl ?_
          refine g_iconst (by decide) (fun v1215 kv1215 => ?_)
          refine g_istore (l' := [(0, .ref 0), (1, .int a1), (2, .int a2), (3, .int v1213), (4, .int v1214), (5, .int v1215)]) rfl rfl ?_
          refine g_nop ?_
          have L1227 : ∀ (N : Nat) (v1216 : Int32) (v1217 : Int32) (v1218 : Int32) (H1219 : mzH), gI SM H1219 → JM H1219 → k0_2 = fZ H1219 0 2 → kpM H H1219 → (-1 ≤ v1216.toInt ∧ v1216.toInt ≤ 2147483647) → (0 ≤ v1218.toInt ∧ v1218.toInt ≤ 60) → (∀ i, aZ H1219 18 i = aZ H1187 18 i) → (∀ i, aZ H1219 2 i = aZ H1187 2 i) → (∀ i, aZ H1219 17 i = aZ H1187 17 i) → (∀ i, aZ H1219 19 i = aZ H1197 19 i) → fZ H1219 0 34 = fZ H1197 0 34 → rwX H1219 (fM H1187 H1197 v1218.toInt.toNat).1 (fM H1187 H1197 v1218.toInt.toNat).2 → v1218.toInt.toNat ≤ cnM H1187 → (v1216.toInt = (bzS (fun p => cnt (fun x => whM (fM H1187 H1197 (p + 1)).1 (fM H1187 H1197 (p + 1)).2 x = a1.toInt) 40) (hqM H1187) v1218.toInt.toNat).1 ∧ v1217.toInt = (bzS (fun p => cnt (fun x => whM (fM H1187 H1197 (p + 1)).1 (fM H1187 H1197 (p + 1)).2 x = a1.toInt) 40) (hqM H1187) v1218.toInt.toNat).2) → -1 ≤ v1216.toInt → (60 - v1218.toInt).toNat < N → gG 7 zB_249 (mzBlk zB_249 4) [(0, .ref 0), (1, .int a1), (2, .int a2), (3, .int v1216), (4, .int v1217), (5, .int v1218)] [] H1219 0 0 (gRi (fun v H' => gI SM H' ∧ JN H' ∧ fZ H' 0 2 = fZ H 0 2 ∧ kpM H H' ∧ ((v.toInt = -1 ∧ ¬ ((a1.toInt = -4 ∨ a1.toInt = -3 ∨ (0 ≤ a1.toInt ∧ a1.toInt < (aZ H 2 0).toInt)) ∧ (0 ≤ a2.toInt ∧ a2.toInt ≤ 1))) ∨ (((a1.toInt = -4 ∨ a1.toInt = -3 ∨ (0 ≤ a1.toInt ∧ a1.toInt < (aZ H 2 0).toInt)) ∧ (0 ≤ a2.toInt ∧ a2.toInt ≤ 1)) ∧ (∃ A : mzH, tkW H A ∧ ∃ G : mzH, clR (rgM G) (mdM G) ∧ v.toInt = bzA (bzS (fun p => cnt (fun x => whM (fM A G (p + 1)).1 (fM A G (p + 1)).2 x = a1.toInt) 40) (hqM A) (cnM A)) a2.toInt))))) := by
            intro N
            induction N with
            | zero => intro v1216 v1217 v1218 H1219 hIH1219 hJH1219 e1220 m1221 bv1216 bv1218 xq1222 xq1223 xq1224 xq1225 xq1226 q5 q8 q6 q7 hmL1227; exact absurd hmL1227 (Nat.not_lt_zero _)
            | succ N ihL1227 =>
              intro v1216 v1217 v1218 H1219 hIH1219 hJH1219 e1220 m1221 bv1216 bv1218 xq1222 xq1223 xq1224 xq1225 xq1226 q5 q8 q6 q7 hmL1227
              refine g_iload rfl ?_
              refine g_aload_n rfl ?_
              refine g_gfi hIH1219 sm_0 rfl (fun v1228 ev1228 lv1228 uv1228 => ?_)
              have zv1228 : v1228.toInt = (cnM H1187 : Int) := by rw [ev1228]; exact od_n (od_cg2 xq1225 xq1226 odH1197)
              refine g_if2_ge (fun c1229 => ?_) (fun c1229 => ?_)
              · refine g_iload_n rfl ?_
                refine g_iconst (by decide) (fun v1230 kv1230 => ?_)
                refine g_if2_ne (fun c1231 => ?_) (fun c1231 => ?_)
                · refine g_iload_n rfl ?_
                  refine g_iconst (by decide) (fun v1232 kv1232 => ?_)
                  refine g_if2_ne (fun c1233 => ?_) (fun c1233 => ?_)
                  · refine g_iload_n rfl ?_
                    refine g_nop ?_
                    exact g_iret ⟨_, rfl, hIH1219, (JM_n hJH1219), (e1220.symm.trans ek0_2), m1221, (Or.inr ⟨by omega, H1187, tH1187, H1197, clH1197, by rw [show cnM H1187 = v1218.toInt.toNat by omega]; unfold bzA; rw [if_pos (by omega)]; split <;> omega⟩)⟩
                  · refine g_iconst (by decide) (fun v1234 kv1234 => ?_)
                    refine g_goto ?_
                    exact g_iret ⟨_, rfl, hIH1219, (JM_n hJH1219), (e1220.symm.trans ek0_2), m1221, (Or.inr ⟨by omega, H1187, tH1187, H1197, clH1197, by rw [show cnM H1187 = v1218.toInt.toNat by omega]; unfold bzA; rw [if_pos (by omega)]; split <;> omega⟩)⟩
                · refine g_iload rfl ?_
                  refine g_goto ?_
                  exact g_iret ⟨_, rfl, hIH1219, (JM_n hJH1219), (e1220.symm.trans ek0_2), m1221, (Or.inr ⟨by omega, H1187, tH1187, H1197, clH1197, by rw [show cnM H1187 = v1218.toInt.toNat by omega]; unfold bzA; rw [if_neg (by omega)]; exact q6.2⟩)⟩
              · refine g_aload_n rfl ?_
                refine g_aload_n rfl ?_
                refine g_gfr hIH1219 sm_0 rfl ?_
                refine g_iload rfl ?_
                refine g_iaload hIH1219 sm_19 rfl (by omega) (fun v1235 ev1235 lv1235 uv1235 => ?_)
                have zkv1235 : v1235.toInt.toNat = odM H1187 v1218.toInt.toNat := by rw [ev1235]; exact od_g (od_cg2 xq1225 xq1226 odH1197) (by omega)
                refine g_invvv hIH1219 sm_0 rfl rfl rfl rfl (r_192 v1235 (by omega) H1219 hIH1219 hJH1219 q5 (gmH1187.2 H1197 clH1197 v1218.toInt.toNat (by omega)).1 (gmH1187.2 H1197 clH1197 v1218.toInt.toNat (by omega)).2 (by rw [xq1222, zkv1235]; exact gmH1187.1 v1218.toInt.toNat (by omega)) (bt_of hIH1219 q5)) (fun H1236 r1237 => ?_)
                obtain ⟨hIH1236, hJH1236, m1238, m1239, m1240, m1241, m1242, m1243, m1244, m1245, m1246, m1247, p1248, p1249, p1250⟩ := r1237
                have e1251 : k0_2 = fZ H1236 0 2 := e1220.trans (m1238 0 2).symm
                have m1252 : kpM H H1236 := kpM_t m1221 m1242
                have xm1253 : (∀ i, aZ H1236 18 i = aZ H1187 18 i) := fun i => (m1243 i : aZ H1236 18 i = aZ H1219 18 i).trans (xq1222 i)
                have xm1254 : (∀ i, aZ H1236 2 i = aZ H1187 2 i) := fun i => (m1239 i : aZ H1236 2 i = aZ H1219 2 i).trans (xq1223 i)
                have xm1255 : (∀ i, aZ H1236 17 i = aZ H1187 17 i) := fun i => (m1241 i : aZ H1236 17 i = aZ H1219 17 i).trans (xq1224 i)
                have xm1256 : (∀ i, aZ H1236 19 i = aZ H1197 19 i) := fun i => (m1240 i : aZ H1236 19 i = aZ H1219 19 i).trans (xq1225 i)
                have xm1257 : fZ H1236 0 34 = fZ H1197 0 34 := (m1238 0 34 : fZ H1236 0 34 = fZ H1219 0 34).trans xq1226
                have wzp1258 : rwX H1236 (fM H1187 H1197 (v1218.toInt.toNat + 1)).1 (fM H1187 H1197 (v1218.toInt.toNat + 1)).2 := fm_st (H := H1187) (kpM_d tH1187.1 m1221) xq1222 xq1223 p1248 zkv1235 (by omega) rfl
                obtain ⟨dpp1258, lap1258⟩ := gmH1187.2 H1197 clH1197 (v1218.toInt.toNat + 1) (by omega)
                refine g_aload_n rfl ?_
                refine g_iload_n rfl ?_
                refine g_invvi hIH1236 sm_0 rfl rfl rfl rfl (r_248 a1 H1236 hIH1236 hJH1236 wzp1258 dpp1258) (fun v1261 H1259 r1260 => ?_)
                obtain ⟨rfl, p1262⟩ := r1260
                have cbv1261 := cnt_b (p := fun x => whM (fM H1187 H1197 (v1218.toInt.toNat + 1)).1 (fM H1187 H1197 (v1218.toInt.toNat + 1)).2 x = a1.toInt) 40
                refine g_istore (l' := [(0, .ref 0), (1, .int a1), (2, .int a2), (3, .int v1216), (4, .int v1217), (5, .int v1218), (6, .int v1261)]) rfl rfl ?_
                refine g_iload rfl ?_
                refine g_iload_n rfl ?_
                refine g_if2_gt (fun c1263 => ?_) (fun c1263 => ?_)
                · refine g_iload rfl ?_
                  refine g_istore_n (l' := [(0, .ref 0), (1, .int a1), (2, .int a2), (3, .int v1261), (4, .int v1217), (5, .int v1218), (6, .int v1261)]) rfl rfl ?_
                  refine g_aload_n rfl ?_
                  refine g_gfr hIH1236 sm_0 rfl ?_
                  refine g_aload_n rfl ?_
                  refine g_gfr hIH1236 sm_0 rfl ?_
                  refine g_iload rfl ?_
                  refine g_iaload hIH1236 sm_19 rfl (by omega) (fun v1264 ev1264 lv1264 uv1264 => ?_)
                  have zkv1264 : v1264.toInt.toNat = odM H1187 v1218.toInt.toNat := by rw [ev1264]; exact od_g (od_cg2 xm1256 xm1257 odH1197) (by omega)
                  refine g_iaload hIH1236 sm_18 rfl (by omega) (fun v1265 ev1265 lv1265 uv1265 => ?_)
                  have hzv1265 : v1265.toInt = (aZ H1187 18 v1264.toInt.toNat).toInt := by rw [ev1265, xm1253]
                  refine g_istore (l' := [(0, .ref 0), (1, .int a1), (2, .int a2), (3, .int v1261), (4, .int v1265), (5, .int v1218), (6, .int v1261)]) rfl rfl ?_
                  refine g_nop ?_
                  refine g_iinc (l' := (fun v1266 => [(0, .ref 0), (1, .int a1), (2, .int a2), (3, .int v1261), (4, .int v1265), (5, .int v1266), (6, .int v1261)])) rfl rfl (by decide) (by omega) (fun _ => rfl) (fun v1266 ev1266 => ?_)
                  refine g_goto ?_
                  refine gG_pick [0, 1, 2, 3, 4, 5] (l' := [(0, .ref 0), (1, .int a1), (2, .int a2), (3, .int v1261), (4, .int v1265), (5, .int v1266)]) rfl ?_
                  exact ihL1227 v1261 v1265 v1266 H1236 hIH1236 hJH1236 e1251 m1252 (by have := gz_any v1261; omega) (by omega) xm1253 xm1254 xm1255 xm1256 xm1257 (by rw [show v1266.toInt.toNat = v1218.toInt.toNat + 1 by omega]; exact wzp1258) (by omega) (bz_n q6 (by omega) (by show _ < cnt _ 40; omega) (by show _ = cnt _ 40; omega) (by show _ = (aZ _ 18 (odM _ _)).toInt; rw [← zkv1264]; omega)) (by omega) (by omega)
                · refine g_goto ?_
                  refine g_iinc (l' := (fun v1267 => [(0, .ref 0), (1, .int a1), (2, .int a2), (3, .int v1216), (4, .int v1217), (5, .int v1267), (6, .int v1261)])) rfl rfl (by decide) (by omega) (fun _ => rfl) (fun v1267 ev1267 => ?_)
                  refine g_goto ?_
                  refine gG_pick [0, 1, 2, 3, 4, 5] (l' := [(0, .ref 0), (1, .int a1), (2, .int a2), (3, .int v1216), (4, .int v1217), (5, .int v1267)]) rfl ?_
                  exact ihL1227 v1216 v1217 v1267 H1236 hIH1236 hJH1236 e1251 m1252 (by have := gz_any v1216; omega) (by omega) xm1253 xm1254 xm1255 xm1256 xm1257 (by rw [show v1267.toInt.toNat = v1218.toInt.toNat + 1 by omega]; exact wzp1258) (by omega) (bz_s q6 (by omega) (by show cnt _ 40 ≤ _; omega)) (by omega) (by omega)
          exact L1227 _ v1213 v1214 v1215 H1197 hIH1197 hJH1197 e1208 m1209 (by have := gz_any v1213; omega) (by omega) xm1210 xm1211 xm1212 (fun _ => rfl) rfl (by rw [kv1215]; exact wdH1197) (by omega) (bz_0 (by omega) (by omega) (by omega)) (by omega) (Nat.lt_succ_self _)
        · refine g_nop ?_
          refine g_iconst (by decide) (fun v1268 kv1268 => ?_)
          exact g_iret ⟨_, rfl, hIH1086, hJH1086, (e1087.symm.trans ek0_2), m1088, (Or.inl ⟨by omega, by omega⟩)⟩
    · refine g_iload_n rfl ?_
      refine g_bipush (by decide) (fun v1269 kv1269 => ?_)
      refine g_if2_ne (fun c1270 => ?_) (fun c1270 => ?_)
      · refine g_iconst (by decide) (fun v1271 kv1271 => ?_)
        exact g_iret ⟨_, rfl, hIH1086, hJH1086, (e1087.symm.trans ek0_2), m1088, (Or.inl ⟨by omega, by omega⟩)⟩
      · refine g_nop ?_
        refine g_iload_n rfl ?_
        refine g_if_lt (fun c1272 => ?_) (fun c1272 => ?_)
        · refine g_iconst (by decide) (fun v1273 kv1273 => ?_)
          exact g_iret ⟨_, rfl, hIH1086, hJH1086, (e1087.symm.trans ek0_2), m1088, (Or.inl ⟨by omega, by omega⟩)⟩
        · refine g_iload_n rfl ?_
          refine g_iconst (by decide) (fun v1274 kv1274 => ?_)
          refine g_if2_le (fun c1275 => ?_) (fun c1275 => ?_)
          · refine g_aload_n rfl ?_
            refine g_invvv hIH1086 sm_0 rfl rfl rfl rfl (r_182 H1086 hIH1086 hJH1086) (fun H1276 r1277 => ?_)
            obtain ⟨hIH1276, hJH1276, m1278, m1279, m1280, m1281, p1282, p1283⟩ := r1277
            have e1284 : k0_2 = fZ H1276 0 2 := e1087.trans (m1278 0 2).symm
            have m1285 : kpM H H1276 := kpM_t m1088 m1280
            have tH1276 : tkW H H1276 := tk_kp m1088 ⟨m1280, m1279, p1283⟩
            have gmH1276 := hp0 H1276 tH1276
            refine g_aload_n rfl ?_
            refine g_invvv hIH1276 sm_0 rfl rfl rfl rfl (r_184 H1276 hIH1276 hJH1276) (fun H1286 r1287 => ?_)
            obtain ⟨hIH1286, hJH1286, w1288, m1289, m1290, m1291, m1292, m1293, p1294, p1295, p1296⟩ := r1287
            have e1297 : k0_2 = fZ H1286 0 2 := e1284.trans w1288.symm
            have m1298 : kpM H H1286 := kpM_t m1285 m1291
            have xm1299 : (∀ i, aZ H1286 18 i = aZ H1276 18 i) := fun i => (m1292 i : aZ H1286 18 i = aZ H1276 18 i).trans ((fun _ => rfl) i)
            have xm1300 : (∀ i, aZ H1286 2 i = aZ H1276 2 i) := fun i => (m1289 i : aZ H1286 2 i = aZ H1276 2 i).trans ((fun _ => rfl) i)
            have xm1301 : (∀ i, aZ H1286 17 i = aZ H1276 17 i) := fun i => (m1290 i : aZ H1286 17 i = aZ H1276 17 i).trans ((fun _ => rfl) i)
            have clH1286 := p1295
            have odH1286 := p1296
            have wdH1286 : rwX H1286 (fM H1276 H1286 0).1 (fM H1276 H1286 0).2 := rw_rd
            refine g_iconst (by decide) (fun v1302 kv1302 => ?_)
            refine g_istore_n (l' := [(0, .ref 0), (1, .int a1), (2, .int a2), (3, .int v1302)]) rfl rfl ?_
            refine g_bipush (by decide) (fun v1303 kv1303 => ?_)
            refine g_istore (l' := [(0, .ref 0), (1, .int a1), (2, .int a2), (3, .int v1302), (4, .int v1303)]) rfl rfl ?_
            refine g_iconst (by decide) (fun v1304 kv1304 => ?_)
            refine g_istore (l' := [(0, .ref 0), (1, .int a1), (2, .int a2), (3, .int v1302), (4, .int v1303), (5, .int v1304)]) rfl rfl ?_
            refine g_nop ?_
            have L1316 : ∀ (N : Nat) (v1305 : Int32) (v1306 : Int32) (v1307 : Int32) (H1308 : mzH), gI SM H1308 → JM H1308 → k0_2 = fZ H1308 0 2 → kpM H H1308 → (-1 ≤ v1305.toInt ∧ v1305.toInt ≤ 2147483647) → (0 ≤ v1307.toInt ∧ v1307.toInt ≤ 60) → (∀ i, aZ H1308 18 i = aZ H1276 18 i) → (∀ i, aZ H1308 2 i = aZ H1276 2 i) → (∀ i, aZ H1308 17 i = aZ H1276 17 i) → (∀ i, aZ H1308 19 i = aZ H1286 19 i) → fZ H1308 0 34 = fZ H1286 0 34 → rwX H1308 (fM H1276 H1286 v1307.toInt.toNat).1 (fM H1276 H1286 v1307.toInt.toNat).2 → v1307.toInt.toNat ≤ cnM H1276 → (v1305.toInt = (bzS (fun p => cnt (fun x => whM (fM H1276 H1286 (p + 1)).1 (fM H1276 H1286 (p + 1)).2 x = a1.toInt) 40) (hqM H1276) v1307.toInt.toNat).1 ∧ v1306.toInt = (bzS (fun p => cnt (fun x => whM (fM H1276 H1286 (p + 1)).1 (fM H1276 H1286 (p + 1)).2 x = a1.toInt) 40) (hqM H1276) v1307.toInt.toNat).2) → -1 ≤ v1305.toInt → (60 - v1307.toInt).toNat < N → gG 7 zB_249 (mzBlk zB_249 4) [(0, .ref 0), (1, .int a1), (2, .int a2), (3, .int v1305), (4, .int v1306), (5, .int v1307)] [] H1308 0 0 (gRi (fun v H' => gI SM H' ∧ JN H' ∧ fZ H' 0 2 = fZ H 0 2 ∧ kpM H H' ∧ ((v.toInt = -1 ∧ ¬ ((a1.toInt = -4 ∨ a1.toInt = -3 ∨ (0 ≤ a1.toInt ∧ a1.toInt < (aZ H 2 0).toInt)) ∧ (0 ≤ a2.toInt ∧ a2.toInt ≤ 1))) ∨ (((a1.toInt = -4 ∨ a1.toInt = -3 ∨ (0 ≤ a1.toInt ∧ a1.toInt < (aZ H 2 0).toInt)) ∧ (0 ≤ a2.toInt ∧ a2.toInt ≤ 1)) ∧ (∃ A : mzH, tkW H A ∧ ∃ G : mzH, clR (rgM G) (mdM G) ∧ v.toInt = bzA (bzS (fun p => cnt (fun x => whM (fM A G (p + 1)).1 (fM A G (p + 1)).2 x = a1.toInt) 40) (hqM A) (cnM A)) a2.toInt))))) := by
              intro N
              induction N with
              | zero => intro v1305 v1306 v1307 H1308 hIH1308 hJH1308 e1309 m1310 bv1305 bv1307 xq1311 xq1312 xq1313 xq1314 xq1315 q5 q8 q6 q7 hmL1316; exact absurd hmL1316 (Nat.not_lt_zero _)
              | succ N ihL1316 =>
                intro v1305 v1306 v1307 H1308 hIH1308 hJH1308 e1309 m1310 bv1305 bv1307 xq1311 xq1312 xq1313 xq1314 xq1315 q5 q8 q6 q7 hmL1316
                refine g_iload rfl ?_
                refine g_aload_n rfl ?_
                refine g_gfi hIH1308 sm_0 rfl (fun v1317 ev1317 lv1317 uv1317 => ?_)
                have zv1317 : v1317.toInt = (cnM H1276 : Int) := by rw [ev1317]; exact od_n (od_cg2 xq1314 xq1315 odH1286)
                refine g_if2_ge (fun c1318 => ?_) (fun c1318 => ?_)
                · refine g_iload_n rfl ?_
                  refine g_iconst (by decide) (fun v1319 kv1319 => ?_)
                  refine g_if2_ne (fun c1320 => ?_) (fun c1320 => ?_)
                  · refine g_iload_n rfl ?_
                    refine g_iconst (by decide) (fun v1321 kv1321 => ?_)
                    refine g_if2_ne (fun c1322 => ?_) (fun c1322 => ?_)
                    · refine g_iload_n rfl ?_
                      refine g_nop ?_
                      exact g_iret ⟨_, rfl, hIH1308, (JM_n hJH1308), (e1309.symm.trans ek0_2), m1310, (Or.inr ⟨by omega, H1276, tH1276, H1286, clH1286, by rw [show cnM H1276 = v1307.toInt.toNat by omega]; unfold bzA; rw [if_pos (by omega)]; split <;> omega⟩)⟩
                    · refine g_iconst (by decide) (fun v1323 kv1323 => ?_)
                      refine g_goto ?_
                      exact g_iret ⟨_, rfl, hIH1308, (JM_n hJH1308), (e1309.symm.trans ek0_2), m1310, (Or.inr ⟨by omega, H1276, tH1276, H1286, clH1286, by rw [show cnM H1276 = v1307.toInt.toNat by omega]; unfold bzA; rw [if_pos (by omega)]; split <;> omega⟩)⟩
                  · refine g_iload rfl ?_
                    refine g_goto ?_
                    exact g_iret ⟨_, rfl, hIH1308, (JM_n hJH1308), (e1309.symm.trans ek0_2), m1310, (Or.inr ⟨by omega, H1276, tH1276, H1286, clH1286, by rw [show cnM H1276 = v1307.toInt.toNat by omega]; unfold bzA; rw [if_neg (by omega)]; exact q6.2⟩)⟩
                · refine g_aload_n rfl ?_
                  refine g_aload_n rfl ?_
                  refine g_gfr hIH1308 sm_0 rfl ?_
                  refine g_iload rfl ?_
                  refine g_iaload hIH1308 sm_19 rfl (by omega) (fun v1324 ev1324 lv1324 uv1324 => ?_)
                  have zkv1324 : v1324.toInt.toNat = odM H1276 v1307.toInt.toNat := by rw [ev1324]; exact od_g (od_cg2 xq1314 xq1315 odH1286) (by omega)
                  refine g_invvv hIH1308 sm_0 rfl rfl rfl rfl (r_192 v1324 (by omega) H1308 hIH1308 hJH1308 q5 (gmH1276.2 H1286 clH1286 v1307.toInt.toNat (by omega)).1 (gmH1276.2 H1286 clH1286 v1307.toInt.toNat (by omega)).2 (by rw [xq1311, zkv1324]; exact gmH1276.1 v1307.toInt.toNat (by omega)) (bt_of hIH1308 q5)) (fun H1325 r1326 => ?_)
                  obtain ⟨hIH1325, hJH1325, m1327, m1328, m1329, m1330, m1331, m1332, m1333, m1334, m1335, m1336, p1337, p1338, p1339⟩ := r1326
                  have e1340 : k0_2 = fZ H1325 0 2 := e1309.trans (m1327 0 2).symm
                  have m1341 : kpM H H1325 := kpM_t m1310 m1331
                  have xm1342 : (∀ i, aZ H1325 18 i = aZ H1276 18 i) := fun i => (m1332 i : aZ H1325 18 i = aZ H1308 18 i).trans (xq1311 i)
                  have xm1343 : (∀ i, aZ H1325 2 i = aZ H1276 2 i) := fun i => (m1328 i : aZ H1325 2 i = aZ H1308 2 i).trans (xq1312 i)
                  have xm1344 : (∀ i, aZ H1325 17 i = aZ H1276 17 i) := fun i => (m1330 i : aZ H1325 17 i = aZ H1308 17 i).trans (xq1313 i)
                  have xm1345 : (∀ i, aZ H1325 19 i = aZ H1286 19 i) := fun i => (m1329 i : aZ H1325 19 i = aZ H1308 19 i).trans (xq1314 i)
                  have xm1346 : fZ H1325 0 34 = fZ H1286 0 34 := (m1327 0 34 : fZ H1325 0 34 = fZ H1308 0 34).trans xq1315
                  have wzp1347 : rwX H1325 (fM H1276 H1286 (v1307.toInt.toNat + 1)).1 (fM H1276 H1286 (v1307.toInt.toNat + 1)).2 := fm_st (H := H1276) (kpM_d tH1276.1 m1310) xq1311 xq1312 p1337 zkv1324 (by omega) rfl
                  obtain ⟨dpp1347, lap1347⟩ := gmH1276.2 H1286 clH1286 (v1307.toInt.toNat + 1) (by omega)
                  refine g_aload_n rfl ?_
                  refine g_iload_n rfl ?_
                  refine g_invvi hIH1325 sm_0 rfl rfl rfl rfl (r_248 a1 H1325 hIH1325 hJH1325 wzp1347 dpp1347) (fun v1350 H1348 r1349 => ?_)
                  obtain ⟨rfl, p1351⟩ := r1349
                  have cbv1350 := cnt_b (p := fun x => whM (fM H1276 H1286 (v1307.toInt.toNat + 1)).1 (fM H1276 H1286 (v1307.toInt.toNat + 1)).2 x = a1.toInt) 40
                  refine g_istore (l' := [(0, .ref 0), (1, .int a1), (2, .int a2), (3, .int v1305), (4, .int v1306), (5, .int v1307), (6, .int v1350)]) rfl rfl ?_
                  refine g_iload rfl ?_
                  refine g_iload_n rfl ?_
                  refine g_if2_gt (fun c1352 => ?_) (fun c1352 => ?_)
                  · refine g_iload rfl ?_
                    refine g_istore_n (l' := [(0, .ref 0), (1, .int a1), (2, .int a2), (3, .int v1350), (4, .int v1306), (5, .int v1307), (6, .int v1350)]) rfl rfl ?_
                    refine g_aload_n rfl ?_
                    refine g_gfr hIH1325 sm_0 rfl ?_
                    refine g_aload_n rfl ?_
                    refine g_gfr hIH1325 sm_0 rfl ?_
                    refine g_iload rfl ?_
                    refine g_iaload hIH1325 sm_19 rfl (by omega) (fun v1353 ev1353 lv1353 uv1353 => ?_)
                    have zkv1353 : v1353.toInt.toNat = odM H1276 v1307.toInt.toNat := by rw [ev1353]; exact od_g (od_cg2 xm1345 xm1346 odH1286) (by omega)
                    refine g_iaload hIH1325 sm_18 rfl (by omega) (fun v1354 ev1354 lv1354 uv1354 => ?_)
                    have hzv1354 : v1354.toInt = (aZ H1276 18 v1353.toInt.toNat).toInt := by rw [ev1354, xm1342]
                    refine g_istore (l' := [(0, .ref 0), (1, .int a1), (2, .int a2), (3, .int v1350), (4, .int v1354), (5, .int v1307), (6, .int v1350)]) rfl rfl ?_
                    refine g_nop ?_
                    refine g_iinc (l' := (fun v1355 => [(0, .ref 0), (1, .int a1), (2, .int a2), (3, .int v1350), (4, .int v1354), (5, .int v1355), (6, .int v1350)])) rfl rfl (by decide) (by omega) (fun _ => rfl) (fun v1355 ev1355 => ?_)
                    refine g_goto ?_
                    refine gG_pick [0, 1, 2, 3, 4, 5] (l' := [(0, .ref 0), (1, .int a1), (2, .int a2), (3, .int v1350), (4, .int v1354), (5, .int v1355)]) rfl ?_
                    exact ihL1316 v1350 v1354 v1355 H1325 hIH1325 hJH1325 e1340 m1341 (by have := gz_any v1350; omega) (by omega) xm1342 xm1343 xm1344 xm1345 xm1346 (by rw [show v1355.toInt.toNat = v1307.toInt.toNat + 1 by omega]; exact wzp1347) (by omega) (bz_n q6 (by omega) (by show _ < cnt _ 40; omega) (by show _ = cnt _ 40; omega) (by show _ = (aZ _ 18 (odM _ _)).toInt; rw [← zkv1353]; omega)) (by omega) (by omega)
                  · refine g_goto ?_
                    refine g_iinc (l' := (fun v1356 => [(0, .ref 0), (1, .int a1), (2, .int a2), (3, .int v1305), (4, .int v1306), (5, .int v1356), (6, .int v1350)])) rfl rfl (by decide) (by omega) (fun _ => rfl) (fun v1356 ev1356 => ?_)
                    refine g_goto ?_
                    refine gG_pick [0, 1, 2, 3, 4, 5] (l' := [(0, .ref 0), (1, .int a1), (2, .int a2), (3, .int v1305), (4, .int v1306), (5, .int v1356)]) rfl ?_
                    exact ihL1316 v1305 v1306 v1356 H1325 hIH1325 hJH1325 e1340 m1341 (by have := gz_any v1305; omega) (by omega) xm1342 xm1343 xm1344 xm1345 xm1346 (by rw [show v1356.toInt.toNat = v1307.toInt.toNat + 1 by omega]; exact wzp1347) (by omega) (bz_s q6 (by omega) (by show cnt _ 40 ≤ _; omega)) (by omega) (by omega)
            exact L1316 _ v1302 v1303 v1304 H1286 hIH1286 hJH1286 e1297 m1298 (by have := gz_any v1302; omega) (by omega) xm1299 xm1300 xm1301 (fun _ => rfl) rfl (by rw [kv1304]; exact wdH1286) (by omega) (bz_0 (by omega) (by omega) (by omega)) (by omega) (Nat.lt_succ_self _)
          · refine g_nop ?_
            refine g_iconst (by decide) (fun v1357 kv1357 => ?_)
            exact g_iret ⟨_, rfl, hIH1086, hJH1086, (e1087.symm.trans ek0_2), m1088, (Or.inl ⟨by omega, by omega⟩)⟩
