/-! THE STORY, STEP BY STEP -/
theorem gx_s2 {H A B : mzH} {p p2 : Nat} (fr : kpX H A) (P : wdX B 28 (lkS (fX H p) (wyX A) (fZ A 3 10).toInt (fZ A 3 11).toInt (aZ A 7 (aZ A 27 p).toInt.toNat).toInt (aZ A 8 (aZ A 27 p).toInt.toNat).toInt.toNat (aZ A 9 (aZ A 27 p).toInt.toNat).toInt (aZ A 10 (aZ A 27 p).toInt.toNat).toInt (aZ A 26 (aZ A 27 p).toInt.toNat).toInt)) (e : p2 = p + 1) : wdX B 28 (fX H p2) := by
  subst e
  rw [wyX_kp fr, (fr 3 (by decide)).1, (fr 3 (by decide)).1, (fr 27 (by decide)).2, (fr 7 (by decide)).2, (fr 8 (by decide)).2, (fr 9 (by decide)).2, (fr 10 (by decide)).2, (fr 26 (by decide)).2] at P
  exact P
/-- the verdict on the message at a spot -/
def vdX (H : mzH) (p : Nat) : Int := obj (fX H p) (wyX H) (fZ H 3 10).toInt (fZ H 3 11).toInt (roX H (odX H p) 1) (roX H (odX H p) 2).toNat (roX H (odX H p) 3) (hoX H (odX H p))
theorem gv_s2 {H A : mzH} {p : Nat} {v : Int} (fr : kpX H A) (P : v = obj (fX H p) (wyX A) (fZ A 3 10).toInt (fZ A 3 11).toInt (aZ A 7 (aZ A 27 p).toInt.toNat).toInt (aZ A 8 (aZ A 27 p).toInt.toNat).toInt.toNat (aZ A 9 (aZ A 27 p).toInt.toNat).toInt (aZ A 26 (aZ A 27 p).toInt.toNat).toInt) : v = vdX H p := by
  rw [wyX_kp fr, (fr 3 (by decide)).1, (fr 3 (by decide)).1, (fr 27 (by decide)).2, (fr 7 (by decide)).2, (fr 8 (by decide)).2, (fr 9 (by decide)).2, (fr 26 (by decide)).2] at P
  exact P
theorem tr0_w {wh hr : Nat → Int} {p : Nat} {w : Int} (e : p = 0) (h : w = -2) : w = (trS wh hr p).2.2.2 := by
  subst e
  exact h
theorem tr0_n {wh hr : Nat → Int} {p : Nat} {w : Int} (e : p = 0) (h : w = 0) : w = ((trS wh hr p).1 : Int) := by
  subst e
  exact h
theorem trw_s {wh hr : Nat → Int} {p p2 : Nat} {w w2 : Int} (q : w = (trS wh hr p).2.2.2) (e : p2 = p + 1) (h : wh p = w) (k : w2 = w) : w2 = (trS wh hr p2).2.2.2 := by
  subst e
  rw [tr_s (h.trans q), k, q]
theorem trw_n {wh hr : Nat → Int} {p p2 : Nat} {w w2 : Int} (q : w = (trS wh hr p).2.2.2) (e : p2 = p + 1) (h : wh p ≠ w) (k : w2 = wh p) : w2 = (trS wh hr p2).2.2.2 := by
  subst e
  rw [tr_n (fun z => h (z.trans q.symm)), k]
theorem trn_s {wh hr : Nat → Int} {p p2 : Nat} {w n n2 : Int} (q : w = (trS wh hr p).2.2.2) (r : n = ((trS wh hr p).1 : Int)) (e : p2 = p + 1) (h : wh p = w) (k : n2 = n) : n2 = ((trS wh hr p2).1 : Int) := by
  subst e
  rw [tr_s (h.trans q), k, r]
theorem trn_n {wh hr : Nat → Int} {p p2 : Nat} {w n n2 : Int} (q : w = (trS wh hr p).2.2.2) (r : n = ((trS wh hr p).1 : Int)) (e : p2 = p + 1) (h : wh p ≠ w) (k : n2 = n + 1) : n2 = ((trS wh hr p2).1 : Int) := by
  subst e
  rw [tr_n (fun z => h (z.trans q.symm)), k, r]
  rfl
set_option maxRecDepth 4000 in
set_option maxHeartbeats 4000000 in
/-- X5.step -/
theorem w_53 {s : pS} (a1 : Int32) (ha1 : 0 ≤ a1.toInt ∧ a1.toInt ≤ 59) (H : mzH) (hI : gI SX H) (hJ : JX H) (hp0 : wdX H 28 s) (hp1 : laB s) (hp2 : kdB s) (hp3 : (0 ≤ (aZ H 26 (aZ H 27 a1.toInt.toNat).toInt.toNat).toInt ∧ (aZ H 26 (aZ H 27 a1.toInt.toNat).toInt.toNat).toInt ≤ 999)) (hp4 : (0 ≤ (aZ H 7 (aZ H 27 a1.toInt.toNat).toInt.toNat).toInt ∧ (aZ H 7 (aZ H 27 a1.toInt.toNat).toInt.toNat).toInt ≤ 10)) : gCall 53 [.ref 24, .int a1] H (gRi (fun v H' => gI SX H' ∧ JX H' ∧ fZ H' 1 1 = fZ H 1 1 ∧ kpX H H' ∧ wdX H' 28 (lkS s (wyX H) (fZ H 3 10).toInt (fZ H 3 11).toInt (aZ H 7 (aZ H 27 a1.toInt.toNat).toInt.toNat).toInt (aZ H 8 (aZ H 27 a1.toInt.toNat).toInt.toNat).toInt.toNat (aZ H 9 (aZ H 27 a1.toInt.toNat).toInt.toNat).toInt (aZ H 10 (aZ H 27 a1.toInt.toNat).toInt.toNat).toInt (aZ H 26 (aZ H 27 a1.toInt.toNat).toInt.toNat).toInt) ∧ v.toInt = obj s (wyX H) (fZ H 3 10).toInt (fZ H 3 11).toInt (aZ H 7 (aZ H 27 a1.toInt.toNat).toInt.toNat).toInt (aZ H 8 (aZ H 27 a1.toInt.toNat).toInt.toNat).toInt.toNat (aZ H 9 (aZ H 27 a1.toInt.toNat).toInt.toNat).toInt (aZ H 26 (aZ H 27 a1.toInt.toNat).toInt.toNat).toInt)) := by
  obtain ⟨k1_1, ek1_1⟩ : ∃ z, z = fZ H 1 1 := ⟨_, rfl⟩
  have ik1_1 : k1_1.toInt = (fZ H 1 1).toInt := by rw [← ek1_1]
  have bk1_1 : 0 ≤ k1_1.toInt ∧ k1_1.toInt ≤ 900 := by rw [ek1_1]; exact fZ_of hI sx_1 rfl
  have mkfr : kpX H H := kpX_r
  refine gG_call [(0, .ref 24), (1, .int a1)] ⟨rfl, rfl, trivial⟩ ?_
  show gG 2 zB_53 (mzBlk zB_53 0) [(0, .ref 24), (1, .int a1)] [] H 0 0 _
  refine g_aload_n rfl ?_
  refine g_gfr hI sx_24 rfl ?_
  refine g_aload_n rfl ?_
  refine g_gfr hI sx_24 rfl ?_
  refine g_aload_n rfl ?_
  refine g_gfr hI sx_24 rfl ?_
  refine g_gfr hI sx_25 rfl ?_
  refine g_iload_n rfl ?_
  refine g_iaload hI sx_27 rfl (by omega) (fun v57 ev57 lv57 uv57 => ?_)
  refine g_aload_n rfl ?_
  refine g_gfr hI sx_24 rfl ?_
  refine g_iload_n rfl ?_
  refine g_invvi hI sx_25 rfl rfl rfl rfl (w_27 25 zCo_25 a1 (by omega) H hI hJ) (fun v60 H58 r59 => ?_)
  obtain ⟨rfl, p61⟩ := r59
  have hbv60 : 0 ≤ v60.toInt ∧ v60.toInt ≤ 999 := by rw [p61]; exact hp3
  refine g_invvi hI sx_28 rfl rfl rfl rfl (w_93 28 zWo_28 v57 (by omega) v60 (by omega) H hI hJ hp0 hp1 hp2 (by rw [ev57]; exact hp4)) (fun v64 H62 r63 => ?_)
  obtain ⟨hIH62, hJH62, w65, m66, p67, p68⟩ := r63
  have e69 : k1_1 = fZ H62 1 1 := ek1_1.trans w65.symm
  have m70 : kpX H H62 := kpX_t mkfr (kpX_W (by decide) m66)
  exact g_iret ⟨_, rfl, hIH62, hJH62, (e69.symm.trans ek1_1), m70, (by rw [← (show _ = (aZ H 26 (aZ H 27 a1.toInt.toNat).toInt.toNat).toInt from p61), ← ev57]; exact p67), (by rw [← (show _ = (aZ H 26 (aZ H 27 a1.toInt.toNat).toInt.toNat).toInt from p61), ← ev57]; exact p68)⟩
set_option maxRecDepth 4000 in
set_option maxHeartbeats 4000000 in
/-- X5.trailEntry -/
theorem w_59  (a1 : Int32) (ha1 : 0 ≤ a1.toInt ∧ a1.toInt ≤ 39) (a2 : Int32) (a3 : Int32) (ha3 : 0 ≤ a3.toInt ∧ a3.toInt ≤ 1) (H : mzH) (hI : gI SX H) (hJ : JX H) (hp0 : gdX H) (hp1 : 0 ≤ a2.toInt) : gCall 59 [.ref 24, .int a1, .int a2, .int a3] H (gRi (fun v H' => gI SX H' ∧ JX H' ∧ fZ H' 1 1 = fZ H 1 1 ∧ kpX H H' ∧ v.toInt = trA (trS (fun p => whr (fX H (p + 1)) a1.toInt.toNat) (hrX H) (fZ H 25 2).toInt.toNat) a2.toInt a3.toInt)) := by
  obtain ⟨k1_1, ek1_1⟩ : ∃ z, z = fZ H 1 1 := ⟨_, rfl⟩
  have ik1_1 : k1_1.toInt = (fZ H 1 1).toInt := by rw [← ek1_1]
  have bk1_1 : 0 ≤ k1_1.toInt ∧ k1_1.toInt ≤ 900 := by rw [ek1_1]; exact fZ_of hI sx_1 rfl
  have mkfr : kpX H H := kpX_r
  refine gG_call [(0, .ref 24), (1, .int a1), (2, .int a2), (3, .int a3)] ⟨rfl, rfl, rfl, rfl, trivial⟩ ?_
  show gG 7 zB_59 (mzBlk zB_59 0) [(0, .ref 24), (1, .int a1), (2, .int a2), (3, .int a3)] [] H 0 0 _
  refine g_aload_n rfl ?_
  refine g_gfr hI sx_24 rfl ?_
  refine g_invvv hI sx_28 rfl rfl rfl rfl (w_83 28 zWo_28 H hI hJ) (fun H1091 r1092 => ?_)
  obtain ⟨hIH1091, hJH1091, w1093, m1094, p1095⟩ := r1092
  have e1096 : k1_1 = fZ H1091 1 1 := ek1_1.trans w1093.symm
  have m1097 : kpX H H1091 := kpX_t mkfr (kpX_W (by decide) m1094)
  refine g_bipush (by decide) (fun v1098 kv1098 => ?_)
  refine g_istore (l' := [(0, .ref 24), (1, .int a1), (2, .int a2), (3, .int a3), (4, .int v1098)]) rfl rfl ?_
  refine g_iconst (by decide) (fun v1099 kv1099 => ?_)
  refine g_istore (l' := [(0, .ref 24), (1, .int a1), (2, .int a2), (3, .int a3), (4, .int v1098), (5, .int v1099)]) rfl rfl ?_
  refine g_iconst (by decide) (fun v1100 kv1100 => ?_)
  refine g_istore (l' := [(0, .ref 24), (1, .int a1), (2, .int a2), (3, .int a3), (4, .int v1098), (5, .int v1099), (6, .int v1100)]) rfl rfl ?_
  refine g_nop ?_
  have L1107 : ∀ (N : Nat) (v1101 : Int32) (v1102 : Int32) (v1103 : Int32) (H1104 : mzH), gI SX H1104 → JX H1104 → k1_1 = fZ H1104 1 1 → kpX H H1104 → (0 ≤ v1102.toInt ∧ v1102.toInt ≤ 60) → (0 ≤ v1103.toInt ∧ v1103.toInt ≤ 60) → v1103.toInt ≤ (fZ H 25 2).toInt → wdX H1104 28 (fX H v1103.toInt.toNat) → v1101.toInt = (trS (fun p => whr (fX H (p + 1)) a1.toInt.toNat) (hrX H) v1103.toInt.toNat).2.2.2 → v1102.toInt = ((trS (fun p => whr (fX H (p + 1)) a1.toInt.toNat) (hrX H) v1103.toInt.toNat).1 : Int) → v1102.toInt ≤ a2.toInt → v1102.toInt ≤ v1103.toInt → (60 - v1103.toInt).toNat < N → gG 7 zB_59 (mzBlk zB_59 1) [(0, .ref 24), (1, .int a1), (2, .int a2), (3, .int a3), (4, .int v1101), (5, .int v1102), (6, .int v1103)] [] H1104 0 0 (gRi (fun v H' => gI SX H' ∧ JX H' ∧ fZ H' 1 1 = fZ H 1 1 ∧ kpX H H' ∧ v.toInt = trA (trS (fun p => whr (fX H (p + 1)) a1.toInt.toNat) (hrX H) (fZ H 25 2).toInt.toNat) a2.toInt a3.toInt)) := by
    intro N
    induction N with
    | zero => intro v1101 v1102 v1103 H1104 hIH1104 hJH1104 e1105 m1106 bv1102 bv1103 q0 q1 q2 q3 q4 q5 hmL1107; exact absurd hmL1107 (Nat.not_lt_zero _)
    | succ N ihL1107 =>
      intro v1101 v1102 v1103 H1104 hIH1104 hJH1104 e1105 m1106 bv1102 bv1103 q0 q1 q2 q3 q4 q5 hmL1107
      refine g_iload rfl ?_
      refine g_aload_n rfl ?_
      refine g_gfr hIH1104 sx_24 rfl ?_
      refine g_gfi hIH1104 sx_25 rfl (fun v1108 ev1108 lv1108 uv1108 => ?_)
      have zv1108 : v1108.toInt = (fZ H 25 2).toInt := by rw [ev1108, (m1106 25 (by decide)).1]
      refine g_if2_ge (fun c1109 => ?_) (fun c1109 => ?_)
      · refine g_bipush (by decide) (fun v1110 kv1110 => ?_)
        exact g_iret ⟨_, rfl, hIH1104, hJH1104, (e1105.symm.trans ek1_1), m1106, (ta_n (by rw [show (fZ H 25 2).toInt.toNat = v1103.toInt.toNat by omega]; omega) (by omega))⟩
      · refine g_aload_n rfl ?_
        refine g_iload rfl ?_
        refine g_invvi hIH1104 sx_24 rfl rfl rfl rfl (w_53 v1103 (by omega) H1104 hIH1104 hJH1104 q1 (hp0.2 v1103.toInt.toNat (by omega)).1 (hp0.2 v1103.toInt.toNat (by omega)).2 (by rw [(m1106 26 (by decide)).2, (m1106 27 (by decide)).2]; exact (hp0.1 v1103.toInt.toNat (by omega)).1) (by rw [(m1106 7 (by decide)).2, (m1106 27 (by decide)).2]; exact (hp0.1 v1103.toInt.toNat (by omega)).2)) (fun v1113 H1111 r1112 => ?_)
        obtain ⟨hIH1111, hJH1111, w1114, m1115, p1116, p1117⟩ := r1112
        have e1118 : k1_1 = fZ H1111 1 1 := e1105.trans w1114.symm
        have m1119 : kpX H H1111 := kpX_t m1106 m1115
        have wzv1103 : wdX H1111 28 (fX H (v1103.toInt.toNat + 1)) := gx_s2 m1106 p1116 rfl
        have vdv1103 := gv_s2 (p := v1103.toInt.toNat) m1106 p1117
        refine g_pop rfl ?_
        refine g_aload_n rfl ?_
        refine g_gfr hIH1111 sx_24 rfl ?_
        refine g_iload_n rfl ?_
        refine g_invvi hIH1111 sx_28 rfl rfl rfl rfl (w_91 28 zWo_28 a1 (by omega) H1111 hIH1111 hJH1111 wzv1103) (fun v1122 H1120 r1121 => ?_)
        obtain ⟨rfl, p1123⟩ := r1121
        refine g_iload rfl ?_
        refine g_if2_eq (fun c1124 => ?_) (fun c1124 => ?_)
        · refine g_iinc (l' := (fun v1125 => [(0, .ref 24), (1, .int a1), (2, .int a2), (3, .int a3), (4, .int v1101), (5, .int v1102), (6, .int v1125)])) rfl rfl (by decide) (by omega) (fun _ => rfl) (fun v1125 ev1125 => ?_)
          refine g_goto ?_
          exact ihL1107 v1101 v1102 v1125 H1111 hIH1111 hJH1111 e1118 m1119 (by omega) (by omega) (by omega) (by rw [show v1125.toInt.toNat = v1103.toInt.toNat + 1 by omega]; exact wzv1103) (trw_s q2 (by omega) (by show whr _ _ = _; omega) rfl) (trn_s q2 q3 (by omega) (by show whr _ _ = _; omega) (by omega)) (by omega) (by omega) (by omega)
        · refine g_aload_n rfl ?_
          refine g_gfr hIH1111 sx_24 rfl ?_
          refine g_iload_n rfl ?_
          refine g_invvi hIH1111 sx_28 rfl rfl rfl rfl (w_91 28 zWo_28 a1 (by omega) H1111 hIH1111 hJH1111 wzv1103) (fun v1128 H1126 r1127 => ?_)
          obtain ⟨rfl, p1129⟩ := r1127
          refine g_istore (l' := [(0, .ref 24), (1, .int a1), (2, .int a2), (3, .int a3), (4, .int v1128), (5, .int v1102), (6, .int v1103)]) rfl rfl ?_
          refine g_iload rfl ?_
          refine g_iload_n rfl ?_
          refine g_if2_ne (fun c1130 => ?_) (fun c1130 => ?_)
          · refine g_iinc (l' := (fun v1131 => [(0, .ref 24), (1, .int a1), (2, .int a2), (3, .int a3), (4, .int v1128), (5, .int v1131), (6, .int v1103)])) rfl rfl (by decide) (by omega) (fun _ => rfl) (fun v1131 ev1131 => ?_)
            refine g_nop ?_
            refine g_iinc (l' := (fun v1132 => [(0, .ref 24), (1, .int a1), (2, .int a2), (3, .int a3), (4, .int v1128), (5, .int v1131), (6, .int v1132)])) rfl rfl (by decide) (by omega) (fun _ => rfl) (fun v1132 ev1132 => ?_)
            refine g_goto ?_
            exact ihL1107 v1128 v1131 v1132 H1111 hIH1111 hJH1111 e1118 m1119 (by omega) (by omega) (by omega) (by rw [show v1132.toInt.toNat = v1103.toInt.toNat + 1 by omega]; exact wzv1103) (trw_n q2 (by omega) (by show whr _ _ ≠ _; omega) (by show _ = whr _ _; omega)) (trn_n q2 q3 (by omega) (by show whr _ _ ≠ _; omega) (by omega)) (by omega) (by omega) (by omega)
          · refine g_iload_n rfl ?_
            refine g_if_eq (fun c1133 => ?_) (fun c1133 => ?_)
            · refine g_aload_n rfl ?_
              refine g_gfr hIH1111 sx_24 rfl ?_
              refine g_iload rfl ?_
              refine g_invvi hIH1111 sx_25 rfl rfl rfl rfl (w_27 25 zCo_25 v1103 (by omega) H1111 hIH1111 hJH1111) (fun v1136 H1134 r1135 => ?_)
              obtain ⟨rfl, p1137⟩ := r1135
              have hzv1136 : v1136.toInt = hrX H v1103.toInt.toNat := ha_kp m1119 p1137
              have hyv1136 : 0 ≤ v1136.toInt ∧ v1136.toInt ≤ 999 := by rw [hzv1136]; exact (hp0.1 v1103.toInt.toNat (by omega)).1
              refine g_nop ?_
              exact g_iret ⟨_, rfl, hIH1111, hJH1111, (e1118.symm.trans ek1_1), m1119, (ta_y (p := v1103.toInt.toNat) (by show ¬ whr _ _ = _; omega) (by omega) (by omega) (by first | (rw [if_pos (by omega)]; omega) | (rw [if_neg (by omega)]; show _ = whr _ _; omega)))⟩
            · refine g_iload rfl ?_
              refine g_goto ?_
              exact g_iret ⟨_, rfl, hIH1111, hJH1111, (e1118.symm.trans ek1_1), m1119, (ta_y (p := v1103.toInt.toNat) (by show ¬ whr _ _ = _; omega) (by omega) (by omega) (by first | (rw [if_pos (by omega)]; omega) | (rw [if_neg (by omega)]; show _ = whr _ _; omega)))⟩
  exact L1107 _ v1098 v1099 v1100 H1091 hIH1091 hJH1091 e1096 m1097 (by omega) (by omega) (by have := fZ_of hI sx_25 (f := 2) rfl; omega) (by rw [kv1100]; exact p1095) (tr0_w (by omega) (by omega)) (tr0_n (by omega) (by omega)) (by omega) (by omega) (Nat.lt_succ_self _)
set_option maxRecDepth 4000 in
set_option maxHeartbeats 4000000 in
/-- X9.trail -/
theorem w_124  (a1 : Int32) (a2 : Int32) (a3 : Int32) (H : mzH) (hI : gI SX H) (hJ : JX H) (hp0 : gdX H) : gCall 124 [.ref 0, .int a1, .int a2, .int a3] H (gRi (fun v H' => gI SX H' ∧ JX H' ∧ fZ H' 1 1 = fZ H 1 1 ∧ kpX H H' ∧ ((v.toInt = -10 ∧ ¬ ((0 ≤ a1.toInt ∧ a1.toInt ≤ 39) ∧ 0 ≤ a2.toInt ∧ (0 ≤ a3.toInt ∧ a3.toInt ≤ 1))) ∨ (((0 ≤ a1.toInt ∧ a1.toInt ≤ 39) ∧ 0 ≤ a2.toInt ∧ (0 ≤ a3.toInt ∧ a3.toInt ≤ 1)) ∧ v.toInt = trA (trS (fun p => whr (fX H (p + 1)) a1.toInt.toNat) (hrX H) (fZ H 25 2).toInt.toNat) a2.toInt (if a3.toInt = 0 then 1 else 0))))) := by
  obtain ⟨k1_1, ek1_1⟩ : ∃ z, z = fZ H 1 1 := ⟨_, rfl⟩
  have ik1_1 : k1_1.toInt = (fZ H 1 1).toInt := by rw [← ek1_1]
  have bk1_1 : 0 ≤ k1_1.toInt ∧ k1_1.toInt ≤ 900 := by rw [ek1_1]; exact fZ_of hI sx_1 rfl
  have mkfr : kpX H H := kpX_r
  refine gG_call [(0, .ref 0), (1, .int a1), (2, .int a2), (3, .int a3)] ⟨rfl, rfl, rfl, rfl, trivial⟩ ?_
  show gG 4 zB_124 (mzBlk zB_124 0) [(0, .ref 0), (1, .int a1), (2, .int a2), (3, .int a3)] [] H 0 0 _
  refine g_iload_n rfl ?_
  refine g_invti rfl rfl rfl (w_149 a1 H hI hJ) (fun v131 H129 r130 => ?_)
  obtain ⟨rfl, bv131, p132⟩ := r130
  refine g_if_eq (fun c133 => ?_) (fun c133 => ?_)
  · refine g_bipush (by decide) (fun v134 kv134 => ?_)
    exact g_iret ⟨_, rfl, hI, hJ, (ek1_1.symm.trans ek1_1), mkfr, (Or.inl ⟨by omega, by omega⟩)⟩
  · refine g_iload_n rfl ?_
    refine g_if_lt (fun c135 => ?_) (fun c135 => ?_)
    · refine g_bipush (by decide) (fun v136 kv136 => ?_)
      exact g_iret ⟨_, rfl, hI, hJ, (ek1_1.symm.trans ek1_1), mkfr, (Or.inl ⟨by omega, by omega⟩)⟩
    · refine g_iload_n rfl ?_
      refine g_if_lt (fun c137 => ?_) (fun c137 => ?_)
      · refine g_bipush (by decide) (fun v138 kv138 => ?_)
        exact g_iret ⟨_, rfl, hI, hJ, (ek1_1.symm.trans ek1_1), mkfr, (Or.inl ⟨by omega, by omega⟩)⟩
      · refine g_iload_n rfl ?_
        refine g_iconst (by decide) (fun v139 kv139 => ?_)
        refine g_if2_le (fun c140 => ?_) (fun c140 => ?_)
        · refine g_aload_n rfl ?_
          refine g_gfr hI sx_0 rfl ?_
          refine g_iload_n rfl ?_
          refine g_iload_n rfl ?_
          refine g_iload_n rfl ?_
          refine g_if_ne (fun c141 => ?_) (fun c141 => ?_)
          · refine g_iconst (by decide) (fun v142 kv142 => ?_)
            refine g_nop ?_
            refine g_invvi hI sx_24 rfl rfl rfl rfl (w_59 a1 (by omega) a2 v142 (by omega) H hI hJ hp0 (by omega)) (fun v145 H143 r144 => ?_)
            obtain ⟨hIH143, hJH143, w146, m147, p148⟩ := r144
            have e149 : k1_1 = fZ H143 1 1 := ek1_1.trans w146.symm
            have m150 : kpX H H143 := kpX_t mkfr m147
            exact g_iret ⟨_, rfl, hIH143, hJH143, (e149.symm.trans ek1_1), m150, (Or.inr ⟨by omega, by rw [p148]; congr 1; first | (rw [if_pos (by omega)]; omega) | (rw [if_neg (by omega)]; omega)⟩)⟩
          · refine g_iconst (by decide) (fun v151 kv151 => ?_)
            refine g_goto ?_
            refine g_invvi hI sx_24 rfl rfl rfl rfl (w_59 a1 (by omega) a2 v151 (by omega) H hI hJ hp0 (by omega)) (fun v154 H152 r153 => ?_)
            obtain ⟨hIH152, hJH152, w155, m156, p157⟩ := r153
            have e158 : k1_1 = fZ H152 1 1 := ek1_1.trans w155.symm
            have m159 : kpX H H152 := kpX_t mkfr m156
            exact g_iret ⟨_, rfl, hIH152, hJH152, (e158.symm.trans ek1_1), m159, (Or.inr ⟨by omega, by rw [p157]; congr 1; first | (rw [if_pos (by omega)]; omega) | (rw [if_neg (by omega)]; omega)⟩)⟩
        · refine g_nop ?_
          refine g_bipush (by decide) (fun v160 kv160 => ?_)
          exact g_iret ⟨_, rfl, hI, hJ, (ek1_1.symm.trans ek1_1), mkfr, (Or.inl ⟨by omega, by omega⟩)⟩
