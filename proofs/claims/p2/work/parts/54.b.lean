set_option maxRecDepth 4000 in
set_option maxHeartbeats 4000000 in
/-- X1.hasPlace -/
theorem s_11 (b : Nat) (hb : zBo b) (a1 : Int32) (H : mzH) (hI : gI SX H) (hJ : JX H) : gCall 11 [.ref b, .int a1] H (gRi (fun v H' => H = H' ∧ (0 ≤ v.toInt ∧ v.toInt ≤ 1) ∧ (v.toInt = 0 ∨ (0 ≤ a1.toInt ∧ a1.toInt ≤ 7)))) := by
  obtain ⟨hbr, hb0, hb1, hb2, hb3, hb4, hb5, hb6, hb7⟩ := id hb
  refine gG_call [(0, .ref b), (1, .int a1)] ⟨rfl, rfl, trivial⟩ ?_
  show gG 2 zB_11 (mzBlk zB_11 0) [(0, .ref b), (1, .int a1)] [] H 0 0 _
  refine g_iload_n rfl ?_
  refine g_if_lt (fun c25 => ?_) (fun c25 => ?_)
  · refine g_iconst (by decide) (fun v26 kv26 => ?_)
    refine g_nop ?_
    exact g_zret (by omega) ⟨_, rfl, rfl, (by omega), (by omega)⟩
  · refine g_iload_n rfl ?_
    refine g_aload_n rfl ?_
    refine g_gfi hI hb0 rfl (fun v27 ev27 lv27 uv27 => ?_)
    refine g_if2_ge (fun c28 => ?_) (fun c28 => ?_)
    · refine g_iconst (by decide) (fun v29 kv29 => ?_)
      refine g_nop ?_
      exact g_zret (by omega) ⟨_, rfl, rfl, (by omega), (by omega)⟩
    · refine g_iconst (by decide) (fun v30 kv30 => ?_)
      refine g_goto ?_
      exact g_zret (by omega) ⟨_, rfl, rfl, (by omega), (by omega)⟩
set_option maxRecDepth 4000 in
set_option maxHeartbeats 4000000 in
/-- X1.hasMessage -/
theorem s_12 (b : Nat) (hb : zBo b) (a1 : Int32) (H : mzH) (hI : gI SX H) (hJ : JX H) : gCall 12 [.ref b, .int a1] H (gRi (fun v H' => H = H' ∧ (0 ≤ v.toInt ∧ v.toInt ≤ 1) ∧ (v.toInt = 0 ∨ (0 ≤ a1.toInt ∧ a1.toInt ≤ 59)))) := by
  obtain ⟨hbr, hb0, hb1, hb2, hb3, hb4, hb5, hb6, hb7⟩ := id hb
  refine gG_call [(0, .ref b), (1, .int a1)] ⟨rfl, rfl, trivial⟩ ?_
  show gG 2 zB_12 (mzBlk zB_12 0) [(0, .ref b), (1, .int a1)] [] H 0 0 _
  refine g_iload_n rfl ?_
  refine g_if_lt (fun c25 => ?_) (fun c25 => ?_)
  · refine g_iconst (by decide) (fun v26 kv26 => ?_)
    refine g_nop ?_
    exact g_zret (by omega) ⟨_, rfl, rfl, (by omega), (by omega)⟩
  · refine g_iload_n rfl ?_
    refine g_aload_n rfl ?_
    refine g_gfi hI hb0 rfl (fun v27 ev27 lv27 uv27 => ?_)
    refine g_if2_ge (fun c28 => ?_) (fun c28 => ?_)
    · refine g_iconst (by decide) (fun v29 kv29 => ?_)
      refine g_nop ?_
      exact g_zret (by omega) ⟨_, rfl, rfl, (by omega), (by omega)⟩
    · refine g_iconst (by decide) (fun v30 kv30 => ?_)
      refine g_goto ?_
      exact g_zret (by omega) ⟨_, rfl, rfl, (by omega), (by omega)⟩
set_option maxRecDepth 4000 in
set_option maxHeartbeats 4000000 in
/-- X1.placeNamed -/
theorem s_13 (b : Nat) (hb : zBo b) (a1 : Int32) (H : mzH) (hI : gI SX H) (hJ : JX H) : gCall 13 [.ref b, .int a1] H (gRi (fun v H' => H = H' ∧ (-2 ≤ v.toInt ∧ v.toInt ≤ 7))) := by
  obtain ⟨hbr, hb0, hb1, hb2, hb3, hb4, hb5, hb6, hb7⟩ := id hb
  refine gG_call [(0, .ref b), (1, .int a1)] ⟨rfl, rfl, trivial⟩ ?_
  show gG 3 zB_13 (mzBlk zB_13 0) [(0, .ref b), (1, .int a1)] [] H 0 0 _
  refine g_iconst (by decide) (fun v69 kv69 => ?_)
  refine g_istore_n (l' := [(0, .ref b), (1, .int a1), (2, .int v69)]) rfl rfl ?_
  refine g_nop ?_
  have L71 : ∀ (N : Nat) (v70 : Int32), (0 ≤ v70.toInt ∧ v70.toInt ≤ 8) → (8 - v70.toInt).toNat < N → gG 3 zB_13 (mzBlk zB_13 1) [(0, .ref b), (1, .int a1), (2, .int v70)] [] H 0 0 (gRi (fun v H' => H = H' ∧ (-2 ≤ v.toInt ∧ v.toInt ≤ 7))) := by
    intro N
    induction N with
    | zero => intro v70 bv70 hmL71; exact absurd hmL71 (Nat.not_lt_zero _)
    | succ N ihL71 =>
      intro v70 bv70 hmL71
      refine g_iload_n rfl ?_
      refine g_aload_n rfl ?_
      refine g_gfi hI hb0 rfl (fun v72 ev72 lv72 uv72 => ?_)
      refine g_if2_ge (fun c73 => ?_) (fun c73 => ?_)
      · refine g_bipush (by decide) (fun v74 kv74 => ?_)
        exact g_iret ⟨_, rfl, rfl, (by omega)⟩
      · refine g_aload_n rfl ?_
        refine g_gfr hI hb0 rfl ?_
        refine g_iload_n rfl ?_
        refine g_iaload hI hb1 rfl (by omega) (fun v75 ev75 lv75 uv75 => ?_)
        refine g_iload_n rfl ?_
        refine g_if2_ne (fun c76 => ?_) (fun c76 => ?_)
        · refine g_iinc (l' := (fun v77 => [(0, .ref b), (1, .int a1), (2, .int v77)])) rfl rfl (by decide) (by omega) (fun _ => rfl) (fun v77 ev77 => ?_)
          refine g_goto ?_
          exact ihL71 v77 (by omega) (by omega)
        · refine g_iload_n rfl ?_
          exact g_iret ⟨_, rfl, rfl, (by omega)⟩
  exact L71 _ v69 (by omega) (Nat.lt_succ_self _)
set_option maxRecDepth 4000 in
set_option maxHeartbeats 4000000 in
/-- X1.addPlace -/
theorem s_14 (b : Nat) (hb : zBo b) (a1 : Int32) (H : mzH) (hI : gI SX H) (hJ : JX H) : gCall 14 [.ref b, .int a1] H (gRv (fun H' => gI SX H' ∧ JX H' ∧ fZ H' 1 1 = fZ H 1 1 ∧ fZ H' 19 7 = fZ H 19 7)) := by
  obtain ⟨hbr, hb0, hb1, hb2, hb3, hb4, hb5, hb6, hb7⟩ := id hb
  obtain ⟨k1_1, ek1_1⟩ : ∃ z, z = fZ H 1 1 := ⟨_, rfl⟩
  have ik1_1 : k1_1.toInt = (fZ H 1 1).toInt := by rw [← ek1_1]
  have bk1_1 : 0 ≤ k1_1.toInt ∧ k1_1.toInt ≤ 900 := by rw [ek1_1]; exact fZ_of hI sx_1 rfl
  obtain ⟨k19_7, ek19_7⟩ : ∃ z, z = fZ H 19 7 := ⟨_, rfl⟩
  have ik19_7 : k19_7.toInt = (fZ H 19 7).toInt := by rw [← ek19_7]
  refine gG_call [(0, .ref b), (1, .int a1)] ⟨rfl, rfl, trivial⟩ ?_
  show gG 2 zB_14 (mzBlk zB_14 0) [(0, .ref b), (1, .int a1)] [] H 0 0 _
  refine g_aload_n rfl ?_
  refine g_gfi hI hb0 rfl (fun v85 ev85 lv85 uv85 => ?_)
  refine g_bipush (by decide) (fun v86 kv86 => ?_)
  refine g_if2_ge (fun c87 => ?_) (fun c87 => ?_)
  · exact g_ret ⟨rfl, hI, hJ, (ek1_1.symm.trans ek1_1), (ek19_7.symm.trans ek19_7)⟩
  · refine g_aload_n rfl ?_
    refine g_gfr hI hb0 rfl ?_
    refine g_aload_n rfl ?_
    refine g_gfk hI hb0 rfl ev85 ?_
    refine g_iload_n rfl ?_
    refine g_iastore hI hb1 (by omega) (gz_any _) (fun H88 eH88 hIH88 => ?_)
    have hJH88 : JX H88 := JX_sA (by omega) eH88 hJ
    have e89 : k1_1 = fZ H88 1 1 := by rw [eH88, fZ_sA]; exact ek1_1
    have e90 : k19_7 = fZ H88 19 7 := by rw [eH88, fZ_sA]; exact ek19_7
    have e91 : v85 = fZ H88 b 7 := by rw [eH88, fZ_sA]; exact ev85
    refine g_aload_n rfl ?_
    refine g_gfr hIH88 hb0 rfl ?_
    refine g_aload_n rfl ?_
    refine g_gfk hIH88 hb0 rfl e91 ?_
    refine g_bipush (by decide) (fun v92 kv92 => ?_)
    refine g_imulk (n := 8) kv92 (by omega) (fun v93 ev93 => ?_)
    refine g_aload_n rfl ?_
    refine g_gfk hIH88 hb0 rfl e91 ?_
    refine g_iadd (by omega) (fun v94 ev94 => ?_)
    refine g_iconst (by decide) (fun v95 kv95 => ?_)
    refine g_iastore hIH88 hb2 (by omega) (gz_any _) (fun H96 eH96 hIH96 => ?_)
    have hJH96 : JX H96 := JX_sA (by omega) eH96 hJH88
    have e97 : k1_1 = fZ H96 1 1 := by rw [eH96, fZ_sA]; exact e89
    have e98 : k19_7 = fZ H96 19 7 := by rw [eH96, fZ_sA]; exact e90
    have e99 : v85 = fZ H96 b 7 := by rw [eH96, fZ_sA]; exact e91
    refine g_aload_n rfl ?_
    refine g_dup rfl ?_
    refine g_gfk hIH96 hb0 rfl e99 ?_
    refine g_iconst (by decide) (fun v100 kv100 => ?_)
    refine g_iadd (by omega) (fun v101 ev101 => ?_)
    refine g_pfi hIH96 hb0 rfl (by omega) (fun H102 eH102 hIH102 => ?_)
    have hJH102 : JX H102 := JX_sF eH102 hJH96
    have e103 : k1_1 = fZ H102 1 1 := by rw [eH102, fZ_sF_nc (by omega)]; exact e97
    have e104 : k19_7 = fZ H102 19 7 := by rw [eH102, fZ_sF_nc (by omega)]; exact e98
    have e105 : v101 = fZ H102 b 7 := by rw [eH102, fZ_sF_eq hIH96 hb0 rfl]
    refine g_nop ?_
    exact g_ret ⟨rfl, hIH102, hJH102, (e103.symm.trans ek1_1), (e104.symm.trans ek19_7)⟩
set_option maxRecDepth 4000 in
set_option maxHeartbeats 4000000 in
/-- X1.shorten -/
theorem s_18 (b : Nat) (hb : zBo b) (a1 : Int32) (a2 : Int32) (a3 : Int32) (H : mzH) (hI : gI SX H) (hJ : JX H) : gCall 18 [.ref b, .int a1, .int a2, .int a3] H (gRv (fun H' => gI SX H' ∧ JX H' ∧ fZ H' 1 1 = fZ H 1 1 ∧ fZ H' 19 7 = fZ H 19 7)) := by
  obtain ⟨hbr, hb0, hb1, hb2, hb3, hb4, hb5, hb6, hb7⟩ := id hb
  obtain ⟨k1_1, ek1_1⟩ : ∃ z, z = fZ H 1 1 := ⟨_, rfl⟩
  have ik1_1 : k1_1.toInt = (fZ H 1 1).toInt := by rw [← ek1_1]
  have bk1_1 : 0 ≤ k1_1.toInt ∧ k1_1.toInt ≤ 900 := by rw [ek1_1]; exact fZ_of hI sx_1 rfl
  obtain ⟨k19_7, ek19_7⟩ : ∃ z, z = fZ H 19 7 := ⟨_, rfl⟩
  have ik19_7 : k19_7.toInt = (fZ H 19 7).toInt := by rw [← ek19_7]
  refine gG_call [(0, .ref b), (1, .int a1), (2, .int a2), (3, .int a3)] ⟨rfl, rfl, rfl, rfl, trivial⟩ ?_
  show gG 5 zB_18 (mzBlk zB_18 0) [(0, .ref b), (1, .int a1), (2, .int a2), (3, .int a3)] [] H 0 0 _
  refine g_aload_n rfl ?_
  refine g_iload_n rfl ?_
  refine g_iload_n rfl ?_
  refine g_invvi hI hb0 rfl rfl rfl rfl (s_17 b hb a1 a2 H hI hJ) (fun v115 H113 r114 => ?_)
  obtain rfl := r114
  refine g_istore (l' := [(0, .ref b), (1, .int a1), (2, .int a2), (3, .int a3), (4, .int v115)]) rfl rfl ?_
  refine g_aload_n rfl ?_
  refine g_iload_n rfl ?_
  refine g_invvi hI hb0 rfl rfl rfl rfl (s_11 b hb a1 H hI hJ) (fun v118 H116 r117 => ?_)
  obtain ⟨rfl, bv118, p119⟩ := r117
  refine g_if_eq (fun c120 => ?_) (fun c120 => ?_)
  · exact g_ret ⟨rfl, hI, hJ, (ek1_1.symm.trans ek1_1), (ek19_7.symm.trans ek19_7)⟩
  · refine g_aload_n rfl ?_
    refine g_iload_n rfl ?_
    refine g_invvi hI hb0 rfl rfl rfl rfl (s_11 b hb a2 H hI hJ) (fun v123 H121 r122 => ?_)
    obtain ⟨rfl, bv123, p124⟩ := r122
    refine g_if_eq (fun c125 => ?_) (fun c125 => ?_)
    · exact g_ret ⟨rfl, hI, hJ, (ek1_1.symm.trans ek1_1), (ek19_7.symm.trans ek19_7)⟩
    · refine g_iload rfl ?_
      refine g_bipush (by decide) (fun v126 kv126 => ?_)
      refine g_if2_eq (fun c127 => ?_) (fun c127 => ?_)
      · refine g_aload_n rfl ?_
        refine g_gfr hI hb0 rfl ?_
        refine g_iload_n rfl ?_
        refine g_bipush (by decide) (fun v128 kv128 => ?_)
        refine g_imulk (n := 8) kv128 (by omega) (fun v129 ev129 => ?_)
        refine g_iload_n rfl ?_
        refine g_iadd (by omega) (fun v130 ev130 => ?_)
        refine g_iload_n rfl ?_
        refine g_iastore hI hb2 (by omega) (gz_any _) (fun H131 eH131 hIH131 => ?_)
        have hJH131 : JX H131 := JX_sA (by omega) eH131 hJ
        have e132 : k1_1 = fZ H131 1 1 := by rw [eH131, fZ_sA]; exact ek1_1
        have e133 : k19_7 = fZ H131 19 7 := by rw [eH131, fZ_sA]; exact ek19_7
        refine g_nop ?_
        exact g_ret ⟨rfl, hIH131, hJH131, (e132.symm.trans ek1_1), (e133.symm.trans ek19_7)⟩
      · refine g_iload_n rfl ?_
        refine g_iload rfl ?_
        refine g_if2_ge (fun c134 => ?_) (fun c134 => ?_)
        · exact g_ret ⟨rfl, hI, hJ, (ek1_1.symm.trans ek1_1), (ek19_7.symm.trans ek19_7)⟩
        · refine g_nop ?_
          refine g_aload_n rfl ?_
          refine g_gfr hI hb0 rfl ?_
          refine g_iload_n rfl ?_
          refine g_bipush (by decide) (fun v135 kv135 => ?_)
          refine g_imulk (n := 8) kv135 (by omega) (fun v136 ev136 => ?_)
          refine g_iload_n rfl ?_
          refine g_iadd (by omega) (fun v137 ev137 => ?_)
          refine g_iload_n rfl ?_
          refine g_iastore hI hb2 (by omega) (gz_any _) (fun H138 eH138 hIH138 => ?_)
          have hJH138 : JX H138 := JX_sA (by omega) eH138 hJ
          have e139 : k1_1 = fZ H138 1 1 := by rw [eH138, fZ_sA]; exact ek1_1
          have e140 : k19_7 = fZ H138 19 7 := by rw [eH138, fZ_sA]; exact ek19_7
          refine g_nop ?_
          exact g_ret ⟨rfl, hIH138, hJH138, (e139.symm.trans ek1_1), (e140.symm.trans ek19_7)⟩
set_option maxRecDepth 4000 in
set_option maxHeartbeats 4000000 in
/-- X1.addRoad -/
theorem s_15 (b : Nat) (hb : zBo b) (a1 : Int32) (a2 : Int32) (a3 : Int32) (H : mzH) (hI : gI SX H) (hJ : JX H) : gCall 15 [.ref b, .int a1, .int a2, .int a3] H (gRv (fun H' => gI SX H' ∧ JX H' ∧ fZ H' 1 1 = fZ H 1 1 ∧ fZ H' 19 7 = fZ H 19 7)) := by
  obtain ⟨hbr, hb0, hb1, hb2, hb3, hb4, hb5, hb6, hb7⟩ := id hb
  obtain ⟨k1_1, ek1_1⟩ : ∃ z, z = fZ H 1 1 := ⟨_, rfl⟩
  have ik1_1 : k1_1.toInt = (fZ H 1 1).toInt := by rw [← ek1_1]
  have bk1_1 : 0 ≤ k1_1.toInt ∧ k1_1.toInt ≤ 900 := by rw [ek1_1]; exact fZ_of hI sx_1 rfl
  obtain ⟨k19_7, ek19_7⟩ : ∃ z, z = fZ H 19 7 := ⟨_, rfl⟩
  have ik19_7 : k19_7.toInt = (fZ H 19 7).toInt := by rw [← ek19_7]
  refine gG_call [(0, .ref b), (1, .int a1), (2, .int a2), (3, .int a3)] ⟨rfl, rfl, rfl, rfl, trivial⟩ ?_
  show gG 4 zB_15 (mzBlk zB_15 0) [(0, .ref b), (1, .int a1), (2, .int a2), (3, .int a3)] [] H 0 0 _
  refine g_aload_n rfl ?_
  refine g_iload_n rfl ?_
  refine g_iload_n rfl ?_
  refine g_iload_n rfl ?_
  refine g_invvv hI hb0 rfl rfl rfl rfl (s_18 b hb a1 a2 a3 H hI hJ) (fun H73 r74 => ?_)
  obtain ⟨hIH73, hJH73, w75, w76⟩ := r74
  have e77 : k1_1 = fZ H73 1 1 := ek1_1.trans w75.symm
  have e78 : k19_7 = fZ H73 19 7 := ek19_7.trans w76.symm
  refine g_aload_n rfl ?_
  refine g_iload_n rfl ?_
  refine g_iload_n rfl ?_
  refine g_iload_n rfl ?_
  refine g_invvv hIH73 hb0 rfl rfl rfl rfl (s_18 b hb a2 a1 a3 H73 hIH73 hJH73) (fun H79 r80 => ?_)
  obtain ⟨hIH79, hJH79, w81, w82⟩ := r80
  have e83 : k1_1 = fZ H79 1 1 := e77.trans w81.symm
  have e84 : k19_7 = fZ H79 19 7 := e78.trans w82.symm
  refine g_aload_n rfl ?_
  refine g_dup rfl ?_
  refine g_gfi hIH79 hb0 rfl (fun v85 ev85 lv85 uv85 => ?_)
  refine g_iconst (by decide) (fun v86 kv86 => ?_)
  refine g_iadd' (fun v87 _ => ?_)
  refine g_pfi hIH79 hb0 rfl (gz_any _) (fun H88 eH88 hIH88 => ?_)
  have hJH88 : JX H88 := JX_sF eH88 hJH79
  have e89 : k1_1 = fZ H88 1 1 := by rw [eH88, fZ_sF_nc (by omega)]; exact e83
  have e90 : k19_7 = fZ H88 19 7 := by rw [eH88, fZ_sF_nc (by omega)]; exact e84
  exact g_ret ⟨rfl, hIH88, hJH88, (e89.symm.trans ek1_1), (e90.symm.trans ek19_7)⟩
set_option maxRecDepth 4000 in
set_option maxHeartbeats 4000000 in
/-- X1.addMessage -/
theorem s_16 (b : Nat) (hb : zBo b) (a1 : Int32) (a2 : Int32) (a3 : Int32) (ha3 : 0 ≤ a3.toInt ∧ a3.toInt ≤ 39) (a4 : Int32) (ha4 : -2 ≤ a4.toInt ∧ a4.toInt ≤ 39) (a5 : Int32) (H : mzH) (hI : gI SX H) (hJ : JX H) (hp0 : (a2.toInt = 1 → 0 ≤ a4.toInt)) : gCall 16 [.ref b, .int a1, .int a2, .int a3, .int a4, .int a5] H (gRv (fun H' => gI SX H' ∧ JX H' ∧ fZ H' 1 1 = fZ H 1 1 ∧ fZ H' 19 7 = fZ H 19 7)) := by
  obtain ⟨hbr, hb0, hb1, hb2, hb3, hb4, hb5, hb6, hb7⟩ := id hb
  obtain ⟨k1_1, ek1_1⟩ : ∃ z, z = fZ H 1 1 := ⟨_, rfl⟩
  have ik1_1 : k1_1.toInt = (fZ H 1 1).toInt := by rw [← ek1_1]
  have bk1_1 : 0 ≤ k1_1.toInt ∧ k1_1.toInt ≤ 900 := by rw [ek1_1]; exact fZ_of hI sx_1 rfl
  obtain ⟨k19_7, ek19_7⟩ : ∃ z, z = fZ H 19 7 := ⟨_, rfl⟩
  have ik19_7 : k19_7.toInt = (fZ H 19 7).toInt := by rw [← ek19_7]
  refine gG_call [(0, .ref b), (1, .int a1), (2, .int a2), (3, .int a3), (4, .int a4), (5, .int a5)] ⟨rfl, rfl, rfl, rfl, rfl, rfl, trivial⟩ ?_
  show gG 6 zB_16 (mzBlk zB_16 0) [(0, .ref b), (1, .int a1), (2, .int a2), (3, .int a3), (4, .int a4), (5, .int a5)] [] H 0 0 _
  refine g_aload_n rfl ?_
  refine g_gfi hI hb0 rfl (fun v117 ev117 lv117 uv117 => ?_)
  refine g_bipush (by decide) (fun v118 kv118 => ?_)
  refine g_if2_ge (fun c119 => ?_) (fun c119 => ?_)
  · exact g_ret ⟨rfl, hI, hJ, (ek1_1.symm.trans ek1_1), (ek19_7.symm.trans ek19_7)⟩
  · refine g_aload_n rfl ?_
    refine g_gfr hI hb0 rfl ?_
    refine g_aload_n rfl ?_
    refine g_gfk hI hb0 rfl ev117 ?_
    refine g_iload_n rfl ?_
    refine g_iastore hI hb3 (by omega) (gz_any _) (fun H120 eH120 hIH120 => ?_)
    have e121 : k1_1 = fZ H120 1 1 := by rw [eH120, fZ_sA]; exact ek1_1
    have e122 : k19_7 = fZ H120 19 7 := by rw [eH120, fZ_sA]; exact ek19_7
    have e123 : v117 = fZ H120 b 9 := by rw [eH120, fZ_sA]; exact ev117
    refine g_aload_n rfl ?_
    refine g_gfr hIH120 hb0 rfl ?_
    refine g_aload_n rfl ?_
    refine g_gfk hIH120 hb0 rfl e123 ?_
    refine g_iload_n rfl ?_
    refine g_iastore hIH120 hb4 (by omega) (gz_any _) (fun H124 eH124 hIH124 => ?_)
    have e125 : k1_1 = fZ H124 1 1 := by rw [eH124, fZ_sA]; exact e121
    have e126 : k19_7 = fZ H124 19 7 := by rw [eH124, fZ_sA]; exact e122
    have e127 : v117 = fZ H124 b 9 := by rw [eH124, fZ_sA]; exact e123
    refine g_aload_n rfl ?_
    refine g_gfr hIH124 hb0 rfl ?_
    refine g_aload_n rfl ?_
    refine g_gfk hIH124 hb0 rfl e127 ?_
    refine g_iload_n rfl ?_
    refine g_iastore hIH124 hb5 (by omega) (by omega) (fun H128 eH128 hIH128 => ?_)
    have e129 : k1_1 = fZ H128 1 1 := by rw [eH128, fZ_sA]; exact e125
    have e130 : k19_7 = fZ H128 19 7 := by rw [eH128, fZ_sA]; exact e126
    have e131 : v117 = fZ H128 b 9 := by rw [eH128, fZ_sA]; exact e127
    refine g_aload_n rfl ?_
    refine g_gfr hIH128 hb0 rfl ?_
    refine g_aload_n rfl ?_
    refine g_gfk hIH128 hb0 rfl e131 ?_
    refine g_iload rfl ?_
    refine g_iastore hIH128 hb6 (by omega) (by omega) (fun H132 eH132 hIH132 => ?_)
    have e133 : k1_1 = fZ H132 1 1 := by rw [eH132, fZ_sA]; exact e129
    have e134 : k19_7 = fZ H132 19 7 := by rw [eH132, fZ_sA]; exact e130
    have e135 : v117 = fZ H132 b 9 := by rw [eH132, fZ_sA]; exact e131
    refine g_aload_n rfl ?_
    refine g_gfr hIH132 hb0 rfl ?_
    refine g_aload_n rfl ?_
    refine g_gfk hIH132 hb0 rfl e135 ?_
    refine g_iload rfl ?_
    refine g_iastore hIH132 hb7 (by omega) (gz_any _) (fun H136 eH136 hIH136 => ?_)
    have e137 : k1_1 = fZ H136 1 1 := by rw [eH136, fZ_sA]; exact e133
    have e138 : k19_7 = fZ H136 19 7 := by rw [eH136, fZ_sA]; exact e134
    have e139 : v117 = fZ H136 b 9 := by rw [eH136, fZ_sA]; exact e135
    refine g_aload_n rfl ?_
    refine g_dup rfl ?_
    refine g_gfk hIH136 hb0 rfl e139 ?_
    refine g_iconst (by decide) (fun v140 kv140 => ?_)
    refine g_iadd (by omega) (fun v141 ev141 => ?_)
    refine g_pfi hIH136 hb0 rfl (by omega) (fun H142 eH142 hIH142 => ?_)
    have e143 : k1_1 = fZ H142 1 1 := by rw [eH142, fZ_sF_nc (by omega)]; exact e137
    have e144 : k19_7 = fZ H142 19 7 := by rw [eH142, fZ_sF_nc (by omega)]; exact e138
    have e145 : v141 = fZ H142 b 9 := by rw [eH142, fZ_sF_eq hIH136 hb0 rfl]
    refine g_nop ?_
    exact g_ret ⟨rfl, hIH142, (JX_add hbr hp0 (by omega) hJ hIH120 hIH128 eH120 eH124 eH128 eH132 eH136 eH142), (e143.symm.trans ek1_1), (e144.symm.trans ek19_7)⟩
set_option maxRecDepth 4000 in
set_option maxHeartbeats 4000000 in
/-- X1.joinRoads -/
theorem s_19 (b : Nat) (hb : zBo b) (H : mzH) (hI : gI SX H) (hJ : JX H) : gCall 19 [.ref b] H (gRv (fun H' => gI SX H' ∧ JX H' ∧ fZ H' 1 1 = fZ H 1 1)) := by
  obtain ⟨hbr, hb0, hb1, hb2, hb3, hb4, hb5, hb6, hb7⟩ := id hb
  obtain ⟨k1_1, ek1_1⟩ : ∃ z, z = fZ H 1 1 := ⟨_, rfl⟩
  have ik1_1 : k1_1.toInt = (fZ H 1 1).toInt := by rw [← ek1_1]
  have bk1_1 : 0 ≤ k1_1.toInt ∧ k1_1.toInt ≤ 900 := by rw [ek1_1]; exact fZ_of hI sx_1 rfl
  refine gG_call [(0, .ref b)] ⟨rfl, trivial⟩ ?_
  show gG 4 zB_19 (mzBlk zB_19 0) [(0, .ref b)] [] H 0 0 _
  refine g_iconst (by decide) (fun v325 kv325 => ?_)
  refine g_istore_n (l' := [(0, .ref b), (1, .int v325)]) rfl rfl ?_
  refine g_nop ?_
  have L329 : ∀ (N : Nat) (v326 : Int32) (H327 : mzH), gI SX H327 → JX H327 → k1_1 = fZ H327 1 1 → (0 ≤ v326.toInt ∧ v326.toInt ≤ 8) → (8 - v326.toInt).toNat < N → gG 4 zB_19 (mzBlk zB_19 1) [(0, .ref b), (1, .int v326)] [] H327 0 0 (gRv (fun H' => gI SX H' ∧ JX H' ∧ fZ H' 1 1 = fZ H 1 1)) := by
    intro N
    induction N with
    | zero => intro v326 H327 hIH327 hJH327 e328 bv326 hmL329; exact absurd hmL329 (Nat.not_lt_zero _)
    | succ N ihL329 =>
      intro v326 H327 hIH327 hJH327 e328 bv326 hmL329
      refine g_iload_n rfl ?_
      refine g_aload_n rfl ?_
      refine g_gfi hIH327 hb0 rfl (fun v330 ev330 lv330 uv330 => ?_)
      refine g_if2_ge (fun c331 => ?_) (fun c331 => ?_)
      · exact g_ret ⟨rfl, hIH327, hJH327, (e328.symm.trans ek1_1)⟩
      · refine g_iconst (by decide) (fun v332 kv332 => ?_)
        refine g_istore_n (l' := [(0, .ref b), (1, .int v326), (2, .int v332)]) rfl rfl ?_
        refine g_nop ?_
        have L336 : ∀ (N : Nat) (v333 : Int32) (H334 : mzH), gI SX H334 → JX H334 → k1_1 = fZ H334 1 1 → (0 ≤ v333.toInt ∧ v333.toInt ≤ 8) → (8 - v333.toInt).toNat < N → gG 4 zB_19 (mzBlk zB_19 2) [(0, .ref b), (1, .int v326), (2, .int v333)] [] H334 0 0 (gRv (fun H' => gI SX H' ∧ JX H' ∧ fZ H' 1 1 = fZ H 1 1)) := by
          intro N
          induction N with
          | zero => intro v333 H334 hIH334 hJH334 e335 bv333 hmL336; exact absurd hmL336 (Nat.not_lt_zero _)
          | succ N ihL336 =>
            intro v333 H334 hIH334 hJH334 e335 bv333 hmL336
            refine g_iload_n rfl ?_
            refine g_aload_n rfl ?_
            refine g_gfi hIH334 hb0 rfl (fun v337 ev337 lv337 uv337 => ?_)
            refine g_if2_ge (fun c338 => ?_) (fun c338 => ?_)
            · refine g_iinc (l' := (fun v339 => [(0, .ref b), (1, .int v339), (2, .int v333)])) rfl rfl (by decide) (by omega) (fun _ => rfl) (fun v339 ev339 => ?_)
              refine g_goto ?_
              refine gG_pick [0, 1] (l' := [(0, .ref b), (1, .int v339)]) rfl ?_
              exact ihL329 v339 H334 hIH334 hJH334 e335 (by omega) (by omega)
            · refine g_iconst (by decide) (fun v340 kv340 => ?_)
              refine g_istore_n (l' := [(0, .ref b), (1, .int v326), (2, .int v333), (3, .int v340)]) rfl rfl ?_
              refine g_nop ?_
              have L344 : ∀ (N : Nat) (v341 : Int32) (H342 : mzH), gI SX H342 → JX H342 → k1_1 = fZ H342 1 1 → (0 ≤ v341.toInt ∧ v341.toInt ≤ 8) → (8 - v341.toInt).toNat < N → gG 4 zB_19 (mzBlk zB_19 3) [(0, .ref b), (1, .int v326), (2, .int v333), (3, .int v341)] [] H342 0 0 (gRv (fun H' => gI SX H' ∧ JX H' ∧ fZ H' 1 1 = fZ H 1 1)) := by
                intro N
                induction N with
                | zero => intro v341 H342 hIH342 hJH342 e343 bv341 hmL344; exact absurd hmL344 (Nat.not_lt_zero _)
                | succ N ihL344 =>
                  intro v341 H342 hIH342 hJH342 e343 bv341 hmL344
                  refine g_iload_n rfl ?_
                  refine g_aload_n rfl ?_
                  refine g_gfi hIH342 hb0 rfl (fun v345 ev345 lv345 uv345 => ?_)
                  refine g_if2_ge (fun c346 => ?_) (fun c346 => ?_)
                  · refine g_iinc (l' := (fun v347 => [(0, .ref b), (1, .int v326), (2, .int v347), (3, .int v341)])) rfl rfl (by decide) (by omega) (fun _ => rfl) (fun v347 ev347 => ?_)
                    refine g_goto ?_
                    refine gG_pick [0, 1, 2] (l' := [(0, .ref b), (1, .int v326), (2, .int v347)]) rfl ?_
                    exact ihL336 v347 H342 hIH342 hJH342 e343 (by omega) (by omega)
                  · refine g_aload_n rfl ?_
                    refine g_iload_n rfl ?_
                    refine g_iload_n rfl ?_
                    refine g_invvi hIH342 hb0 rfl rfl rfl rfl (s_17 b hb v333 v326 H342 hIH342 hJH342) (fun v350 H348 r349 => ?_)
                    obtain rfl := r349
                    refine g_bipush (by decide) (fun v351 kv351 => ?_)
                    refine g_if2_eq (fun c352 => ?_) (fun c352 => ?_)
                    · refine g_iinc (l' := (fun v353 => [(0, .ref b), (1, .int v326), (2, .int v333), (3, .int v353)])) rfl rfl (by decide) (by omega) (fun _ => rfl) (fun v353 ev353 => ?_)
                      refine g_goto ?_
                      exact ihL344 v353 H342 hIH342 hJH342 e343 (by omega) (by omega)
                    · refine g_aload_n rfl ?_
                      refine g_iload_n rfl ?_
                      refine g_iload_n rfl ?_
                      refine g_invvi hIH342 hb0 rfl rfl rfl rfl (s_17 b hb v326 v341 H342 hIH342 hJH342) (fun v356 H354 r355 => ?_)
                      obtain rfl := r355
                      refine g_bipush (by decide) (fun v357 kv357 => ?_)
                      refine g_if2_eq (fun c358 => ?_) (fun c358 => ?_)
                      · refine g_iinc (l' := (fun v359 => [(0, .ref b), (1, .int v326), (2, .int v333), (3, .int v359)])) rfl rfl (by decide) (by omega) (fun _ => rfl) (fun v359 ev359 => ?_)
                        refine g_goto ?_
                        exact ihL344 v359 H342 hIH342 hJH342 e343 (by omega) (by omega)
                      · refine g_aload_n rfl ?_
                        refine g_iload_n rfl ?_
                        refine g_iload_n rfl ?_
                        refine g_aload_n rfl ?_
                        refine g_iload_n rfl ?_
                        refine g_iload_n rfl ?_
                        refine g_invvi hIH342 hb0 rfl rfl rfl rfl (s_17 b hb v333 v326 H342 hIH342 hJH342) (fun v362 H360 r361 => ?_)
                        obtain rfl := r361
                        refine g_aload_n rfl ?_
                        refine g_iload_n rfl ?_
                        refine g_iload_n rfl ?_
                        refine g_invvi hIH342 hb0 rfl rfl rfl rfl (s_17 b hb v326 v341 H342 hIH342 hJH342) (fun v365 H363 r364 => ?_)
                        obtain rfl := r364
                        refine g_iadd' (fun v366 _ => ?_)
                        refine g_invvv hIH342 hb0 rfl rfl rfl rfl (s_18 b hb v333 v341 v366 H342 hIH342 hJH342) (fun H367 r368 => ?_)
                        obtain ⟨hIH367, hJH367, w369, w370⟩ := r368
                        have e371 : k1_1 = fZ H367 1 1 := e343.trans w369.symm
                        refine g_nop ?_
                        refine g_iinc (l' := (fun v372 => [(0, .ref b), (1, .int v326), (2, .int v333), (3, .int v372)])) rfl rfl (by decide) (by omega) (fun _ => rfl) (fun v372 ev372 => ?_)
                        refine g_goto ?_
                        exact ihL344 v372 H367 hIH367 hJH367 e371 (by omega) (by omega)
              exact L344 _ v340 H334 hIH334 hJH334 e335 (by omega) (Nat.lt_succ_self _)
        exact L336 _ v332 H327 hIH327 hJH327 e328 (by omega) (Nat.lt_succ_self _)
  exact L329 _ v325 H hI hJ ek1_1 (by omega) (Nat.lt_succ_self _)
set_option maxRecDepth 4000 in
set_option maxHeartbeats 4000000 in
/-- X1.isLate -/
theorem s_20 (b : Nat) (hb : zBo b) (a1 : Int32) (ha1 : 0 ≤ a1.toInt ∧ a1.toInt ≤ 59) (H : mzH) (hI : gI SX H) (hJ : JX H) : gCall 20 [.ref b, .int a1] H (gRi (fun v H' => H = H' ∧ (0 ≤ v.toInt ∧ v.toInt ≤ 1))) := by
  obtain ⟨hbr, hb0, hb1, hb2, hb3, hb4, hb5, hb6, hb7⟩ := id hb
  refine gG_call [(0, .ref b), (1, .int a1)] ⟨rfl, rfl, trivial⟩ ?_
  show gG 3 zB_20 (mzBlk zB_20 0) [(0, .ref b), (1, .int a1)] [] H 0 0 _
  refine g_iconst (by decide) (fun v161 kv161 => ?_)
  refine g_istore_n (l' := [(0, .ref b), (1, .int a1), (2, .int v161)]) rfl rfl ?_
  refine g_nop ?_
  have L163 : ∀ (N : Nat) (v162 : Int32), (0 ≤ v162.toInt ∧ v162.toInt ≤ 59) → (59 - v162.toInt).toNat < N → gG 3 zB_20 (mzBlk zB_20 1) [(0, .ref b), (1, .int a1), (2, .int v162)] [] H 0 0 (gRi (fun v H' => H = H' ∧ (0 ≤ v.toInt ∧ v.toInt ≤ 1))) := by
    intro N
    induction N with
    | zero => intro v162 bv162 hmL163; exact absurd hmL163 (Nat.not_lt_zero _)
    | succ N ihL163 =>
      intro v162 bv162 hmL163
      refine g_iload_n rfl ?_
      refine g_iload_n rfl ?_
      refine g_if2_ge (fun c164 => ?_) (fun c164 => ?_)
      · refine g_iconst (by decide) (fun v165 kv165 => ?_)
        exact g_zret (by omega) ⟨_, rfl, rfl, (by omega)⟩
      · refine g_iload_n rfl ?_
        refine g_aload_n rfl ?_
        refine g_gfi hI hb0 rfl (fun v166 ev166 lv166 uv166 => ?_)
        refine g_if2_ge (fun c167 => ?_) (fun c167 => ?_)
        · refine g_iconst (by decide) (fun v168 kv168 => ?_)
          exact g_zret (by omega) ⟨_, rfl, rfl, (by omega)⟩
        · refine g_aload_n rfl ?_
          refine g_gfr hI hb0 rfl ?_
          refine g_iload_n rfl ?_
          refine g_iaload hI hb3 rfl (by omega) (fun v169 ev169 lv169 uv169 => ?_)
          refine g_aload_n rfl ?_
          refine g_gfr hI hb0 rfl ?_
          refine g_iload_n rfl ?_
          refine g_iaload hI hb3 rfl (by omega) (fun v170 ev170 lv170 uv170 => ?_)
          refine g_if2_le (fun c171 => ?_) (fun c171 => ?_)
          · refine g_iinc (l' := (fun v172 => [(0, .ref b), (1, .int a1), (2, .int v172)])) rfl rfl (by decide) (by omega) (fun _ => rfl) (fun v172 ev172 => ?_)
            refine g_goto ?_
            exact ihL163 v172 (by omega) (by omega)
          · refine g_iconst (by decide) (fun v173 kv173 => ?_)
            exact g_zret (by omega) ⟨_, rfl, rfl, (by omega)⟩
  exact L163 _ v161 (by omega) (Nat.lt_succ_self _)
set_option maxRecDepth 4000 in
set_option maxHeartbeats 4000000 in
/-- X1.lateOnes -/
theorem s_21 (b : Nat) (hb : zBo b) (H : mzH) (hI : gI SX H) (hJ : JX H) : gCall 21 [.ref b] H (gRi (fun v H' => H = H')) := by
  obtain ⟨hbr, hb0, hb1, hb2, hb3, hb4, hb5, hb6, hb7⟩ := id hb
  refine gG_call [(0, .ref b)] ⟨rfl, trivial⟩ ?_
  show gG 3 zB_21 (mzBlk zB_21 0) [(0, .ref b)] [] H 0 0 _
  refine g_iconst (by decide) (fun v373 kv373 => ?_)
  refine g_istore_n (l' := [(0, .ref b), (1, .int v373)]) rfl rfl ?_
  refine g_iconst (by decide) (fun v374 kv374 => ?_)
  refine g_istore_n (l' := [(0, .ref b), (1, .int v373), (2, .int v374)]) rfl rfl ?_
  refine g_nop ?_
  have L377 : ∀ (N : Nat) (v375 : Int32) (v376 : Int32), (0 ≤ v376.toInt ∧ v376.toInt ≤ 60) → (60 - v376.toInt).toNat < N → gG 3 zB_21 (mzBlk zB_21 1) [(0, .ref b), (1, .int v375), (2, .int v376)] [] H 0 0 (gRi (fun v H' => H = H')) := by
    intro N
    induction N with
    | zero => intro v375 v376 bv376 hmL377; exact absurd hmL377 (Nat.not_lt_zero _)
    | succ N ihL377 =>
      intro v375 v376 bv376 hmL377
      refine g_iload_n rfl ?_
      refine g_aload_n rfl ?_
      refine g_gfi hI hb0 rfl (fun v378 ev378 lv378 uv378 => ?_)
      refine g_if2_ge (fun c379 => ?_) (fun c379 => ?_)
      · refine g_iload_n rfl ?_
        exact g_iret ⟨_, rfl, rfl⟩
      · refine g_iload_n rfl ?_
        refine g_aload_n rfl ?_
        refine g_iload_n rfl ?_
        refine g_invvi hI hb0 rfl rfl rfl rfl (s_20 b hb v376 (by omega) H hI hJ) (fun v382 H380 r381 => ?_)
        obtain ⟨rfl, bv382⟩ := r381
        refine g_if_eq (fun c383 => ?_) (fun c383 => ?_)
        · refine g_iconst (by decide) (fun v384 kv384 => ?_)
          refine g_nop ?_
          refine g_iadd (by have := gz_any v375; omega) (fun v385 ev385 => ?_)
          refine g_istore_n (l' := [(0, .ref b), (1, .int v385), (2, .int v376)]) rfl rfl ?_
          refine g_iinc (l' := (fun v386 => [(0, .ref b), (1, .int v385), (2, .int v386)])) rfl rfl (by decide) (by omega) (fun _ => rfl) (fun v386 ev386 => ?_)
          refine g_goto ?_
          exact ihL377 v385 v386 (by omega) (by omega)
        · refine g_iconst (by decide) (fun v387 kv387 => ?_)
          refine g_goto ?_
          refine g_iadd' (fun v388 _ => ?_)
          refine g_istore_n (l' := [(0, .ref b), (1, .int v388), (2, .int v376)]) rfl rfl ?_
          refine g_iinc (l' := (fun v389 => [(0, .ref b), (1, .int v388), (2, .int v389)])) rfl rfl (by decide) (by omega) (fun _ => rfl) (fun v389 ev389 => ?_)
          refine g_goto ?_
          exact ihL377 v388 v389 (by omega) (by omega)
  exact L377 _ v373 v374 (by omega) (Nat.lt_succ_self _)
set_option maxRecDepth 4000 in
set_option maxHeartbeats 4000000 in
/-- X1.latestHour -/
theorem s_22 (b : Nat) (hb : zBo b) (H : mzH) (hI : gI SX H) (hJ : JX H) : gCall 22 [.ref b] H (gRi (fun v H' => H = H')) := by
  obtain ⟨hbr, hb0, hb1, hb2, hb3, hb4, hb5, hb6, hb7⟩ := id hb
  refine gG_call [(0, .ref b)] ⟨rfl, trivial⟩ ?_
  show gG 3 zB_22 (mzBlk zB_22 0) [(0, .ref b)] [] H 0 0 _
  refine g_iconst (by decide) (fun v107 kv107 => ?_)
  refine g_istore_n (l' := [(0, .ref b), (1, .int v107)]) rfl rfl ?_
  refine g_iconst (by decide) (fun v108 kv108 => ?_)
  refine g_istore_n (l' := [(0, .ref b), (1, .int v107), (2, .int v108)]) rfl rfl ?_
  refine g_nop ?_
  have L111 : ∀ (N : Nat) (v109 : Int32) (v110 : Int32), (0 ≤ v109.toInt ∧ v109.toInt ≤ 2147483647) → (0 ≤ v110.toInt ∧ v110.toInt ≤ 60) → (60 - v110.toInt).toNat < N → gG 3 zB_22 (mzBlk zB_22 1) [(0, .ref b), (1, .int v109), (2, .int v110)] [] H 0 0 (gRi (fun v H' => H = H')) := by
    intro N
    induction N with
    | zero => intro v109 v110 bv109 bv110 hmL111; exact absurd hmL111 (Nat.not_lt_zero _)
    | succ N ihL111 =>
      intro v109 v110 bv109 bv110 hmL111
      refine g_iload_n rfl ?_
      refine g_aload_n rfl ?_
      refine g_gfi hI hb0 rfl (fun v112 ev112 lv112 uv112 => ?_)
      refine g_if2_ge (fun c113 => ?_) (fun c113 => ?_)
      · refine g_iload_n rfl ?_
        exact g_iret ⟨_, rfl, rfl⟩
      · refine g_iload_n rfl ?_
        refine g_aload_n rfl ?_
        refine g_gfr hI hb0 rfl ?_
        refine g_iload_n rfl ?_
        refine g_iaload hI hb3 rfl (by omega) (fun v114 ev114 lv114 uv114 => ?_)
        refine g_max rfl (fun v115 av115 bv115 dv115 => ?_)
        refine g_istore_n (l' := [(0, .ref b), (1, .int v115), (2, .int v110)]) rfl rfl ?_
        refine g_iinc (l' := (fun v116 => [(0, .ref b), (1, .int v115), (2, .int v116)])) rfl rfl (by decide) (by omega) (fun _ => rfl) (fun v116 ev116 => ?_)
        refine g_goto ?_
        exact ihL111 v115 v116 (by have := gz_any v115; omega) (by omega) (by omega)
  exact L111 _ v107 v108 (by have := gz_any v107; omega) (by omega) (Nat.lt_succ_self _)
set_option maxRecDepth 4000 in
set_option maxHeartbeats 4000000 in
/-- X2.takeHours -/
theorem s_24 (c : Nat) (hc : zCo c) (b : Nat) (hb : zBo b) (H : mzH) (hI : gI SX H) (hJ : JX H) : gCall 24 [.ref c, .ref b] H (gRv (fun H' => gI SX H' ∧ JX H' ∧ fZ H' 1 1 = fZ H 1 1)) := by
  obtain ⟨hcr, hc0, hc1, hc2⟩ := id hc
  obtain ⟨hbr, hb0, hb1, hb2, hb3, hb4, hb5, hb6, hb7⟩ := id hb
  obtain ⟨k1_1, ek1_1⟩ : ∃ z, z = fZ H 1 1 := ⟨_, rfl⟩
  have ik1_1 : k1_1.toInt = (fZ H 1 1).toInt := by rw [← ek1_1]
  have bk1_1 : 0 ≤ k1_1.toInt ∧ k1_1.toInt ≤ 900 := by rw [ek1_1]; exact fZ_of hI sx_1 rfl
  refine gG_call [(0, .ref c), (1, .ref b)] ⟨rfl, rfl, trivial⟩ ?_
  show gG 2 zB_24 (mzBlk zB_24 0) [(0, .ref c), (1, .ref b)] [] H 0 0 _
  refine g_aload_n rfl ?_
  refine g_aload_n rfl ?_
  refine g_gfi hI hb0 rfl (fun v33 ev33 lv33 uv33 => ?_)
  refine g_pfi hI hc0 rfl (by omega) (fun H34 eH34 hIH34 => ?_)
  have hJH34 : JX H34 := JX_sF eH34 hJ
  have e35 : k1_1 = fZ H34 1 1 := by rw [eH34, fZ_sF_nc (by omega)]; exact ek1_1
  refine g_aload_n rfl ?_
  refine g_gfr hIH34 hb0 rfl ?_
  refine g_iconst (by decide) (fun v36 kv36 => ?_)
  refine g_aload_n rfl ?_
  refine g_gfr hIH34 hc0 rfl ?_
  refine g_iconst (by decide) (fun v37 kv37 => ?_)
  refine g_bipush (by decide) (fun v38 kv38 => ?_)
  refine g_acp hIH34 hc1 hb3 (by decide) (by decide) (by omega) (by omega) (by omega) rfl (fun H39 eH39 hIH39 => ?_)
  have hJH39 : JX H39 := JX_sC (by omega) eH39 hJH34
  have e40 : k1_1 = fZ H39 1 1 := by rw [eH39, fZ_sC hIH34 hc1 hb3]; exact e35
  exact g_ret ⟨rfl, hIH39, hJH39, (e40.symm.trans ek1_1)⟩
set_option maxRecDepth 4000 in
set_option maxHeartbeats 4000000 in
/-- X2.arrange -/
theorem s_25 (c : Nat) (hc : zCo c) (H : mzH) (hI : gI SX H) (hJ : JX H) : gCall 25 [.ref c] H (gRv (fun H' => gI SX H' ∧ JX H' ∧ fZ H' 1 1 = fZ H 1 1)) := by
  obtain ⟨hcr, hc0, hc1, hc2⟩ := id hc
  obtain ⟨k1_1, ek1_1⟩ : ∃ z, z = fZ H 1 1 := ⟨_, rfl⟩
  have ik1_1 : k1_1.toInt = (fZ H 1 1).toInt := by rw [← ek1_1]
  have bk1_1 : 0 ≤ k1_1.toInt ∧ k1_1.toInt ≤ 900 := by rw [ek1_1]; exact fZ_of hI sx_1 rfl
  refine gG_call [(0, .ref c)] ⟨rfl, trivial⟩ ?_
  show gG 3 zB_25 (mzBlk zB_25 0) [(0, .ref c)] [] H 0 0 _
  refine g_iconst (by decide) (fun v268 kv268 => ?_)
  refine g_istore_n (l' := [(0, .ref c), (1, .int v268)]) rfl rfl ?_
  refine g_nop ?_
  have L272 : ∀ (N : Nat) (v269 : Int32) (H270 : mzH), gI SX H270 → JX H270 → k1_1 = fZ H270 1 1 → (0 ≤ v269.toInt ∧ v269.toInt ≤ 60) → (60 - v269.toInt).toNat < N → gG 3 zB_25 (mzBlk zB_25 1) [(0, .ref c), (1, .int v269)] [] H270 0 0 (gRv (fun H' => gI SX H' ∧ JX H' ∧ fZ H' 1 1 = fZ H 1 1)) := by
    intro N
    induction N with
    | zero => intro v269 H270 hIH270 hJH270 e271 bv269 hmL272; exact absurd hmL272 (Nat.not_lt_zero _)
    | succ N ihL272 =>
      intro v269 H270 hIH270 hJH270 e271 bv269 hmL272
      refine g_iload_n rfl ?_
      refine g_aload_n rfl ?_
      refine g_gfi hIH270 hc0 rfl (fun v273 ev273 lv273 uv273 => ?_)
      refine g_if2_ge (fun c274 => ?_) (fun c274 => ?_)
      · exact g_ret ⟨rfl, hIH270, hJH270, (e271.symm.trans ek1_1)⟩
      · refine g_iload_n rfl ?_
        refine g_istore_n (l' := [(0, .ref c), (1, .int v269), (2, .int v269)]) rfl rfl ?_
        refine g_nop ?_
        have L278 : ∀ (N : Nat) (v275 : Int32) (H276 : mzH), gI SX H276 → JX H276 → k1_1 = fZ H276 1 1 → (0 ≤ v275.toInt ∧ v275.toInt ≤ 59) → (v275.toInt - (0)).toNat < N → gG 3 zB_25 (mzBlk zB_25 2) [(0, .ref c), (1, .int v269), (2, .int v275)] [] H276 0 0 (gRv (fun H' => gI SX H' ∧ JX H' ∧ fZ H' 1 1 = fZ H 1 1)) := by
          intro N
          induction N with
          | zero => intro v275 H276 hIH276 hJH276 e277 bv275 hmL278; exact absurd hmL278 (Nat.not_lt_zero _)
          | succ N ihL278 =>
            intro v275 H276 hIH276 hJH276 e277 bv275 hmL278
            refine g_iload_n rfl ?_
            refine g_if_le (fun c279 => ?_) (fun c279 => ?_)
            · refine g_aload_n rfl ?_
              refine g_gfr hIH276 hc0 rfl ?_
              refine g_iload_n rfl ?_
              refine g_iload_n rfl ?_
              refine g_iastore hIH276 hc2 (by omega) (by omega) (fun H280 eH280 hIH280 => ?_)
              have hJH280 : JX H280 := JX_sA (by omega) eH280 hJH276
              have e281 : k1_1 = fZ H280 1 1 := by rw [eH280, fZ_sA]; exact e277
              refine g_iinc (l' := (fun v282 => [(0, .ref c), (1, .int v282), (2, .int v275)])) rfl rfl (by decide) (by omega) (fun _ => rfl) (fun v282 ev282 => ?_)
              refine g_goto ?_
              refine gG_pick [0, 1] (l' := [(0, .ref c), (1, .int v282)]) rfl ?_
              exact ihL272 v282 H280 hIH280 hJH280 e281 (by omega) (by omega)
            · refine g_aload_n rfl ?_
              refine g_gfr hIH276 hc0 rfl ?_
              refine g_aload_n rfl ?_
              refine g_gfr hIH276 hc0 rfl ?_
              refine g_iload_n rfl ?_
              refine g_iconst (by decide) (fun v283 kv283 => ?_)
              refine g_isub (by omega) (fun v284 ev284 => ?_)
              refine g_iaload hIH276 hc2 rfl (by omega) (fun v285 ev285 lv285 uv285 => ?_)
              refine g_iaload hIH276 hc1 rfl (by omega) (fun v286 ev286 lv286 uv286 => ?_)
              refine g_aload_n rfl ?_
              refine g_gfr hIH276 hc0 rfl ?_
              refine g_iload_n rfl ?_
              refine g_iaload hIH276 hc1 rfl (by omega) (fun v287 ev287 lv287 uv287 => ?_)
              refine g_if2_le (fun c288 => ?_) (fun c288 => ?_)
              · refine g_aload_n rfl ?_
                refine g_gfr hIH276 hc0 rfl ?_
                refine g_iload_n rfl ?_
                refine g_iload_n rfl ?_
                refine g_iastore hIH276 hc2 (by omega) (by omega) (fun H289 eH289 hIH289 => ?_)
                have hJH289 : JX H289 := JX_sA (by omega) eH289 hJH276
                have e290 : k1_1 = fZ H289 1 1 := by rw [eH289, fZ_sA]; exact e277
                refine g_iinc (l' := (fun v291 => [(0, .ref c), (1, .int v291), (2, .int v275)])) rfl rfl (by decide) (by omega) (fun _ => rfl) (fun v291 ev291 => ?_)
                refine g_goto ?_
                refine gG_pick [0, 1] (l' := [(0, .ref c), (1, .int v291)]) rfl ?_
                exact ihL272 v291 H289 hIH289 hJH289 e290 (by omega) (by omega)
              · refine g_aload_n rfl ?_
                refine g_gfr hIH276 hc0 rfl ?_
                refine g_iload_n rfl ?_
                refine g_aload_n rfl ?_
                refine g_gfr hIH276 hc0 rfl ?_
                refine g_iload_n rfl ?_
                refine g_iconst (by decide) (fun v292 kv292 => ?_)
                refine g_isub (by omega) (fun v293 ev293 => ?_)
                refine g_iaload hIH276 hc2 rfl (by omega) (fun v294 ev294 lv294 uv294 => ?_)
                refine g_iastore hIH276 hc2 (by omega) (by omega) (fun H295 eH295 hIH295 => ?_)
                have hJH295 : JX H295 := JX_sA (by omega) eH295 hJH276
                have e296 : k1_1 = fZ H295 1 1 := by rw [eH295, fZ_sA]; exact e277
                refine g_iinc (l' := (fun v297 => [(0, .ref c), (1, .int v269), (2, .int v297)])) rfl rfl (by decide) (by omega) (fun _ => rfl) (fun v297 ev297 => ?_)
                refine g_goto ?_
                exact ihL278 v297 H295 hIH295 hJH295 e296 (by omega) (by omega)
        exact L278 _ v269 H270 hIH270 hJH270 e271 (by omega) (Nat.lt_succ_self _)
  exact L272 _ v268 H hI hJ ek1_1 (by omega) (Nat.lt_succ_self _)
set_option maxRecDepth 4000 in
set_option maxHeartbeats 4000000 in
/-- X2.spotOf -/
theorem s_26 (c : Nat) (hc : zCo c) (a1 : Int32) (H : mzH) (hI : gI SX H) (hJ : JX H) : gCall 26 [.ref c, .int a1] H (gRi (fun v H' => H = H' ∧ (-1 ≤ v.toInt ∧ v.toInt ≤ 59))) := by
  obtain ⟨hcr, hc0, hc1, hc2⟩ := id hc
  refine gG_call [(0, .ref c), (1, .int a1)] ⟨rfl, rfl, trivial⟩ ?_
  show gG 3 zB_26 (mzBlk zB_26 0) [(0, .ref c), (1, .int a1)] [] H 0 0 _
  refine g_iconst (by decide) (fun v117 kv117 => ?_)
  refine g_istore_n (l' := [(0, .ref c), (1, .int a1), (2, .int v117)]) rfl rfl ?_
  refine g_nop ?_
  have L119 : ∀ (N : Nat) (v118 : Int32), (0 ≤ v118.toInt ∧ v118.toInt ≤ 60) → (60 - v118.toInt).toNat < N → gG 3 zB_26 (mzBlk zB_26 1) [(0, .ref c), (1, .int a1), (2, .int v118)] [] H 0 0 (gRi (fun v H' => H = H' ∧ (-1 ≤ v.toInt ∧ v.toInt ≤ 59))) := by
    intro N
    induction N with
    | zero => intro v118 bv118 hmL119; exact absurd hmL119 (Nat.not_lt_zero _)
    | succ N ihL119 =>
      intro v118 bv118 hmL119
      refine g_iload_n rfl ?_
      refine g_aload_n rfl ?_
      refine g_gfi hI hc0 rfl (fun v120 ev120 lv120 uv120 => ?_)
      refine g_if2_ge (fun c121 => ?_) (fun c121 => ?_)
      · refine g_iconst (by decide) (fun v122 kv122 => ?_)
        exact g_iret ⟨_, rfl, rfl, (by omega)⟩
      · refine g_aload_n rfl ?_
        refine g_gfr hI hc0 rfl ?_
        refine g_iload_n rfl ?_
        refine g_iaload hI hc2 rfl (by omega) (fun v123 ev123 lv123 uv123 => ?_)
        refine g_iload_n rfl ?_
        refine g_if2_ne (fun c124 => ?_) (fun c124 => ?_)
        · refine g_iinc (l' := (fun v125 => [(0, .ref c), (1, .int a1), (2, .int v125)])) rfl rfl (by decide) (by omega) (fun _ => rfl) (fun v125 ev125 => ?_)
          refine g_goto ?_
          exact ihL119 v125 (by omega) (by omega)
        · refine g_iload_n rfl ?_
          exact g_iret ⟨_, rfl, rfl, (by omega)⟩
  exact L119 _ v117 (by omega) (Nat.lt_succ_self _)
set_option maxRecDepth 4000 in
set_option maxHeartbeats 4000000 in
/-- X3.lastVerdictWithout -/
theorem s_30 (a1 : Int32) (a2 : Int32) (H : mzH) (hI : gI SX H) (hJ : JX H) : gCall 30 [.ref 43, .int a1, .int a2] H (gRi (fun v H' => gI SX H' ∧ JX H' ∧ fZ H' 1 1 = fZ H 1 1)) := by
  obtain ⟨k1_1, ek1_1⟩ : ∃ z, z = fZ H 1 1 := ⟨_, rfl⟩
  have ik1_1 : k1_1.toInt = (fZ H 1 1).toInt := by rw [← ek1_1]
  have bk1_1 : 0 ≤ k1_1.toInt ∧ k1_1.toInt ≤ 900 := by rw [ek1_1]; exact fZ_of hI sx_1 rfl
  refine gG_call [(0, .ref 43), (1, .int a1), (2, .int a2)] ⟨rfl, rfl, rfl, trivial⟩ ?_
  show gG 6 zB_30 (mzBlk zB_30 0) [(0, .ref 43), (1, .int a1), (2, .int a2)] [] H 0 0 _
  refine g_aload_n rfl ?_
  refine g_gfr hI sx_43 rfl ?_
  refine g_invvv hI sx_44 rfl rfl rfl rfl (s_83 44 zWo_44 H hI hJ) (fun H249 r250 => ?_)
  obtain ⟨hIH249, hJH249, w251⟩ := r250
  have e252 : k1_1 = fZ H249 1 1 := ek1_1.trans w251.symm
  refine g_iconst (by decide) (fun v253 kv253 => ?_)
  refine g_istore_n (l' := [(0, .ref 43), (1, .int a1), (2, .int a2), (3, .int v253)]) rfl rfl ?_
  refine g_iconst (by decide) (fun v254 kv254 => ?_)
  refine g_istore (l' := [(0, .ref 43), (1, .int a1), (2, .int a2), (3, .int v253), (4, .int v254)]) rfl rfl ?_
  refine g_nop ?_
  have L259 : ∀ (N : Nat) (v255 : Int32) (v256 : Int32) (H257 : mzH), gI SX H257 → JX H257 → k1_1 = fZ H257 1 1 → (0 ≤ v256.toInt ∧ v256.toInt ≤ 60) → (60 - v256.toInt).toNat < N → gG 6 zB_30 (mzBlk zB_30 1) [(0, .ref 43), (1, .int a1), (2, .int a2), (3, .int v255), (4, .int v256)] [] H257 0 0 (gRi (fun v H' => gI SX H' ∧ JX H' ∧ fZ H' 1 1 = fZ H 1 1)) := by
    intro N
    induction N with
    | zero => intro v255 v256 H257 hIH257 hJH257 e258 bv256 hmL259; exact absurd hmL259 (Nat.not_lt_zero _)
    | succ N ihL259 =>
      intro v255 v256 H257 hIH257 hJH257 e258 bv256 hmL259
      refine g_iload rfl ?_
      refine g_iload_n rfl ?_
      refine g_if2_gt (fun c260 => ?_) (fun c260 => ?_)
      · refine g_iload_n rfl ?_
        exact g_iret ⟨_, rfl, hIH257, hJH257, (e258.symm.trans ek1_1)⟩
      · refine g_iload rfl ?_
        refine g_aload_n rfl ?_
        refine g_gfr hIH257 sx_43 rfl ?_
        refine g_gfr hIH257 sx_24 rfl ?_
        refine g_gfi hIH257 sx_25 rfl (fun v261 ev261 lv261 uv261 => ?_)
        refine g_if2_ge (fun c262 => ?_) (fun c262 => ?_)
        · refine g_iload_n rfl ?_
          exact g_iret ⟨_, rfl, hIH257, hJH257, (e258.symm.trans ek1_1)⟩
        · refine g_aload_n rfl ?_
          refine g_gfr hIH257 sx_43 rfl ?_
          refine g_gfr hIH257 sx_24 rfl ?_
          refine g_gfr hIH257 sx_25 rfl ?_
          refine g_iload rfl ?_
          refine g_iaload hIH257 sx_27 rfl (by omega) (fun v263 ev263 lv263 uv263 => ?_)
          refine g_istore (l' := [(0, .ref 43), (1, .int a1), (2, .int a2), (3, .int v255), (4, .int v256), (5, .int v263)]) rfl rfl ?_
          refine g_iload rfl ?_
          refine g_iload_n rfl ?_
          refine g_if2_eq (fun c264 => ?_) (fun c264 => ?_)
          · refine g_iinc (l' := (fun v265 => [(0, .ref 43), (1, .int a1), (2, .int a2), (3, .int v255), (4, .int v265), (5, .int v263)])) rfl rfl (by decide) (by omega) (fun _ => rfl) (fun v265 ev265 => ?_)
            refine g_goto ?_
            refine gG_pick [0, 1, 2, 3, 4] (l' := [(0, .ref 43), (1, .int a1), (2, .int a2), (3, .int v255), (4, .int v265)]) rfl ?_
            exact ihL259 v255 v265 H257 hIH257 hJH257 e258 (by omega) (by omega)
          · refine g_aload_n rfl ?_
            refine g_gfr hIH257 sx_43 rfl ?_
            refine g_aload_n rfl ?_
            refine g_gfr hIH257 sx_43 rfl ?_
            refine g_iload rfl ?_
            refine g_aload_n rfl ?_
            refine g_gfr hIH257 sx_43 rfl ?_
            refine g_gfr hIH257 sx_3 rfl ?_
            refine g_iload rfl ?_
            refine g_iaload hIH257 sx_6 rfl (by omega) (fun v266 ev266 lv266 uv266 => ?_)
            refine g_invvi hIH257 sx_44 rfl rfl rfl rfl (s_93 44 zWo_44 3 zBo_3 v263 (by omega) v266 H257 hIH257 hJH257) (fun v269 H267 r268 => ?_)
            obtain ⟨hIH267, hJH267, w270⟩ := r268
            have e271 : k1_1 = fZ H267 1 1 := e258.trans w270.symm
            refine g_istore_n (l' := [(0, .ref 43), (1, .int a1), (2, .int a2), (3, .int v269), (4, .int v256), (5, .int v263)]) rfl rfl ?_
            refine g_nop ?_
            refine g_iinc (l' := (fun v272 => [(0, .ref 43), (1, .int a1), (2, .int a2), (3, .int v269), (4, .int v272), (5, .int v263)])) rfl rfl (by decide) (by omega) (fun _ => rfl) (fun v272 ev272 => ?_)
            refine g_goto ?_
            refine gG_pick [0, 1, 2, 3, 4] (l' := [(0, .ref 43), (1, .int a1), (2, .int a2), (3, .int v269), (4, .int v272)]) rfl ?_
            exact ihL259 v269 v272 H267 hIH267 hJH267 e271 (by omega) (by omega)
  exact L259 _ v253 v254 H249 hIH249 hJH249 e252 (by omega) (Nat.lt_succ_self _)
set_option maxRecDepth 4000 in
set_option maxHeartbeats 4000000 in
/-- X8.whereIs -/
theorem s_91 (w : Nat) (hw : zWo w) (a1 : Int32) (ha1 : 0 ≤ a1.toInt ∧ a1.toInt ≤ 39) (H : mzH) (hI : gI SX H) (hJ : JX H) : gCall 91 [.ref w, .int a1] H (gRi (fun v H' => H = H')) := by
  obtain ⟨hwr, hw0, hw1, hw2, hw3, hw4, hw5, hw6⟩ := id hw
  refine gG_call [(0, .ref w), (1, .int a1)] ⟨rfl, rfl, trivial⟩ ?_
  show gG 3 zB_91 (mzBlk zB_91 0) [(0, .ref w), (1, .int a1)] [] H 0 0 _
  refine g_aload_n rfl ?_
  refine g_iload_n rfl ?_
  refine g_invvi hI hw0 rfl rfl rfl rfl (s_88 w hw a1 (by omega) H hI hJ) (fun v87 H85 r86 => ?_)
  obtain ⟨rfl, bv87⟩ := r86
  refine g_if_ne (fun c88 => ?_) (fun c88 => ?_)
  · refine g_aload_n rfl ?_
    refine g_iload_n rfl ?_
    refine g_iconst (by decide) (fun v89 kv89 => ?_)
    refine g_invvi hI hw0 rfl rfl rfl rfl (s_85 w hw a1 (by omega) v89 H hI hJ) (fun v92 H90 r91 => ?_)
    obtain ⟨rfl, bv92⟩ := r91
    refine g_if_eq (fun c93 => ?_) (fun c93 => ?_)
    · refine g_aload_n rfl ?_
      refine g_iload_n rfl ?_
      refine g_invvi hI hw0 rfl rfl rfl rfl (s_89 w hw a1 (by omega) H hI hJ) (fun v96 H94 r95 => ?_)
      obtain ⟨rfl, bv96⟩ := r95
      refine g_istore_n (l' := [(0, .ref w), (1, .int a1), (2, .int v96)]) rfl rfl ?_
      refine g_aload_n rfl ?_
      refine g_iload_n rfl ?_
      refine g_iconst (by decide) (fun v97 kv97 => ?_)
      refine g_invvi hI hw0 rfl rfl rfl rfl (s_85 w hw v96 (by omega) v97 H hI hJ) (fun v100 H98 r99 => ?_)
      obtain ⟨rfl, bv100⟩ := r99
      refine g_if_eq (fun c101 => ?_) (fun c101 => ?_)
      · refine g_aload_n rfl ?_
        refine g_gfr hI hw0 rfl ?_
        refine g_iload_n rfl ?_
        refine g_iaload hI hw3 rfl (by omega) (fun v102 ev102 lv102 uv102 => ?_)
        refine g_nop ?_
        exact g_iret ⟨_, rfl, rfl⟩
      · refine g_bipush (by decide) (fun v103 kv103 => ?_)
        refine g_goto ?_
        exact g_iret ⟨_, rfl, rfl⟩
    · refine g_bipush (by decide) (fun v104 kv104 => ?_)
      exact g_iret ⟨_, rfl, rfl⟩
  · refine g_bipush (by decide) (fun v105 kv105 => ?_)
    exact g_iret ⟨_, rfl, rfl⟩
set_option maxRecDepth 4000 in
set_option maxHeartbeats 4000000 in
/-- X3.placeWithout -/
theorem s_29 (a1 : Int32) (a2 : Int32) (ha2 : 0 ≤ a2.toInt ∧ a2.toInt ≤ 39) (H : mzH) (hI : gI SX H) (hJ : JX H) : gCall 29 [.ref 43, .int a1, .int a2] H (gRi (fun v H' => gI SX H' ∧ JX H' ∧ fZ H' 1 1 = fZ H 1 1)) := by
  obtain ⟨k1_1, ek1_1⟩ : ∃ z, z = fZ H 1 1 := ⟨_, rfl⟩
  have ik1_1 : k1_1.toInt = (fZ H 1 1).toInt := by rw [← ek1_1]
  have bk1_1 : 0 ≤ k1_1.toInt ∧ k1_1.toInt ≤ 900 := by rw [ek1_1]; exact fZ_of hI sx_1 rfl
  refine gG_call [(0, .ref 43), (1, .int a1), (2, .int a2)] ⟨rfl, rfl, rfl, trivial⟩ ?_
  show gG 3 zB_29 (mzBlk zB_29 0) [(0, .ref 43), (1, .int a1), (2, .int a2)] [] H 0 0 _
  refine g_aload_n rfl ?_
  refine g_iload_n rfl ?_
  refine g_aload_n rfl ?_
  refine g_gfr hI sx_43 rfl ?_
  refine g_gfr hI sx_24 rfl ?_
  refine g_gfi hI sx_25 rfl (fun v45 ev45 lv45 uv45 => ?_)
  refine g_iconst (by decide) (fun v46 kv46 => ?_)
  refine g_isub (by omega) (fun v47 ev47 => ?_)
  refine g_invvi hI sx_43 rfl rfl rfl rfl (s_30 a1 v47 H hI hJ) (fun v50 H48 r49 => ?_)
  obtain ⟨hIH48, hJH48, w51⟩ := r49
  have e52 : k1_1 = fZ H48 1 1 := ek1_1.trans w51.symm
  refine g_pop rfl ?_
  refine g_aload_n rfl ?_
  refine g_gfr hIH48 sx_43 rfl ?_
  refine g_iload_n rfl ?_
  refine g_invvi hIH48 sx_44 rfl rfl rfl rfl (s_91 44 zWo_44 a2 (by omega) H48 hIH48 hJH48) (fun v55 H53 r54 => ?_)
  obtain rfl := r54
  exact g_iret ⟨_, rfl, hIH48, hJH48, (e52.symm.trans ek1_1)⟩
set_option maxRecDepth 4000 in
set_option maxHeartbeats 4000000 in
/-- X3.deciding -/
theorem s_31 (a1 : Int32) (ha1 : 0 ≤ a1.toInt ∧ a1.toInt ≤ 59) (H : mzH) (hI : gI SX H) (hJ : JX H) : gCall 31 [.ref 43, .int a1] H (gRl (fun _ H' => gI SX H' ∧ JX H' ∧ fZ H' 1 1 = fZ H 1 1)) := by
  obtain ⟨k1_1, ek1_1⟩ : ∃ z, z = fZ H 1 1 := ⟨_, rfl⟩
  have ik1_1 : k1_1.toInt = (fZ H 1 1).toInt := by rw [← ek1_1]
  have bk1_1 : 0 ≤ k1_1.toInt ∧ k1_1.toInt ≤ 900 := by rw [ek1_1]; exact fZ_of hI sx_1 rfl
  refine gG_call [(0, .ref 43), (1, .int a1)] ⟨rfl, rfl, trivial⟩ ?_
  show gG 8 zB_31 (mzBlk zB_31 0) [(0, .ref 43), (1, .int a1)] [] H 0 0 _
  refine g_lconst (fun v476 _ => ?_)
  refine g_lstore_n (l' := [(0, .ref 43), (1, .int a1), (2, .long v476)]) rfl rfl ?_
  refine g_aload_n rfl ?_
  refine g_gfr hI sx_43 rfl ?_
  refine g_gfr hI sx_24 rfl ?_
  refine g_iload_n rfl ?_
  refine g_invvi hI sx_25 rfl rfl rfl rfl (s_26 25 zCo_25 a1 H hI hJ) (fun v479 H477 r478 => ?_)
  obtain ⟨rfl, bv479⟩ := r478
  refine g_istore (l' := [(0, .ref 43), (1, .int a1), (2, .long v476), (4, .int v479)]) rfl rfl ?_
  refine g_iconst (by decide) (fun v480 kv480 => ?_)
  refine g_istore (l' := [(0, .ref 43), (1, .int a1), (2, .long v476), (4, .int v479), (5, .int v480)]) rfl rfl ?_
  refine g_nop ?_
  have L485 : ∀ (N : Nat) (v481 : Int64) (v482 : Int32) (H483 : mzH), gI SX H483 → JX H483 → k1_1 = fZ H483 1 1 → (0 ≤ v482.toInt ∧ v482.toInt ≤ 59) → (59 - v482.toInt).toNat < N → gG 8 zB_31 (mzBlk zB_31 1) [(0, .ref 43), (1, .int a1), (2, .long v481), (4, .int v479), (5, .int v482)] [] H483 0 0 (gRl (fun _ H' => gI SX H' ∧ JX H' ∧ fZ H' 1 1 = fZ H 1 1)) := by
    intro N
    induction N with
    | zero => intro v481 v482 H483 hIH483 hJH483 e484 bv482 hmL485; exact absurd hmL485 (Nat.not_lt_zero _)
    | succ N ihL485 =>
      intro v481 v482 H483 hIH483 hJH483 e484 bv482 hmL485
      refine g_iload rfl ?_
      refine g_iload rfl ?_
      refine g_if2_ge (fun c486 => ?_) (fun c486 => ?_)
      · refine g_lload_n rfl ?_
        exact g_lret ⟨_, rfl, hIH483, hJH483, (e484.symm.trans ek1_1)⟩
      · refine g_aload_n rfl ?_
        refine g_gfr hIH483 sx_43 rfl ?_
        refine g_gfr hIH483 sx_24 rfl ?_
        refine g_gfr hIH483 sx_25 rfl ?_
        refine g_iload rfl ?_
        refine g_iaload hIH483 sx_27 rfl (by omega) (fun v487 ev487 lv487 uv487 => ?_)
        refine g_istore (l' := [(0, .ref 43), (1, .int a1), (2, .long v481), (4, .int v479), (5, .int v482), (6, .int v487)]) rfl rfl ?_
        refine g_aload_n rfl ?_
        refine g_iload rfl ?_
        refine g_iload rfl ?_
        refine g_invvi hIH483 sx_43 rfl rfl rfl rfl (s_30 v487 v479 H483 hIH483 hJH483) (fun v490 H488 r489 => ?_)
        obtain ⟨hIH488, hJH488, w491⟩ := r489
        have e492 : k1_1 = fZ H488 1 1 := e484.trans w491.symm
        refine g_if_ne (fun c493 => ?_) (fun c493 => ?_)
        · refine g_iconst (by decide) (fun v494 kv494 => ?_)
          refine g_nop ?_
          refine g_istore (l' := [(0, .ref 43), (1, .int a1), (2, .long v481), (4, .int v479), (5, .int v482), (6, .int v487), (7, .int v494)]) rfl rfl ?_
          refine g_iload rfl ?_
          refine g_aload_n rfl ?_
          refine g_gfr hIH488 sx_43 rfl ?_
          refine g_gfr hIH488 sx_24 rfl ?_
          refine g_iload_n rfl ?_
          refine g_iaload hIH488 sx_42 rfl (by omega) (fun v495 ev495 lv495 uv495 => ?_)
          refine g_if_ne (fun c496 => ?_) (fun c496 => ?_)
          · refine g_iconst (by decide) (fun v497 kv497 => ?_)
            refine g_nop ?_
            refine g_if2_eq (fun c498 => ?_) (fun c498 => ?_)
            · refine g_iinc (l' := (fun v499 => [(0, .ref 43), (1, .int a1), (2, .long v481), (4, .int v479), (5, .int v499), (6, .int v487), (7, .int v494)])) rfl rfl (by decide) (by omega) (fun _ => rfl) (fun v499 ev499 => ?_)
              refine g_goto ?_
              refine gG_pick [0, 1, 2, 4, 5] (l' := [(0, .ref 43), (1, .int a1), (2, .long v481), (4, .int v479), (5, .int v499)]) rfl ?_
              exact ihL485 v481 v499 H488 hIH488 hJH488 e492 (by omega) (by omega)
            · exfalso; omega
          · refine g_iconst (by decide) (fun v500 kv500 => ?_)
            refine g_goto ?_
            refine g_if2_eq (fun c501 => ?_) (fun c501 => ?_)
            · exfalso; omega
            · refine g_lload_n rfl ?_
              refine g_lconst (fun v502 _ => ?_)
              refine g_iload rfl ?_
              refine g_lshl (fun v503 _ => ?_)
              refine g_lor (fun v504 _ => ?_)
              refine g_lstore_n (l' := [(0, .ref 43), (1, .int a1), (2, .long v504), (4, .int v479), (5, .int v482), (6, .int v487), (7, .int v494)]) rfl rfl ?_
              refine g_nop ?_
              refine g_iinc (l' := (fun v505 => [(0, .ref 43), (1, .int a1), (2, .long v504), (4, .int v479), (5, .int v505), (6, .int v487), (7, .int v494)])) rfl rfl (by decide) (by omega) (fun _ => rfl) (fun v505 ev505 => ?_)
              refine g_goto ?_
              refine gG_pick [0, 1, 2, 4, 5] (l' := [(0, .ref 43), (1, .int a1), (2, .long v504), (4, .int v479), (5, .int v505)]) rfl ?_
              exact ihL485 v504 v505 H488 hIH488 hJH488 e492 (by omega) (by omega)
        · refine g_iconst (by decide) (fun v506 kv506 => ?_)
          refine g_goto ?_
          refine g_istore (l' := [(0, .ref 43), (1, .int a1), (2, .long v481), (4, .int v479), (5, .int v482), (6, .int v487), (7, .int v506)]) rfl rfl ?_
          refine g_iload rfl ?_
          refine g_aload_n rfl ?_
          refine g_gfr hIH488 sx_43 rfl ?_
          refine g_gfr hIH488 sx_24 rfl ?_
          refine g_iload_n rfl ?_
          refine g_iaload hIH488 sx_42 rfl (by omega) (fun v507 ev507 lv507 uv507 => ?_)
          refine g_if_ne (fun c508 => ?_) (fun c508 => ?_)
          · refine g_iconst (by decide) (fun v509 kv509 => ?_)
            refine g_nop ?_
            refine g_if2_eq (fun c510 => ?_) (fun c510 => ?_)
            · exfalso; omega
            · refine g_lload_n rfl ?_
              refine g_lconst (fun v511 _ => ?_)
              refine g_iload rfl ?_
              refine g_lshl (fun v512 _ => ?_)
              refine g_lor (fun v513 _ => ?_)
              refine g_lstore_n (l' := [(0, .ref 43), (1, .int a1), (2, .long v513), (4, .int v479), (5, .int v482), (6, .int v487), (7, .int v506)]) rfl rfl ?_
              refine g_nop ?_
              refine g_iinc (l' := (fun v514 => [(0, .ref 43), (1, .int a1), (2, .long v513), (4, .int v479), (5, .int v514), (6, .int v487), (7, .int v506)])) rfl rfl (by decide) (by omega) (fun _ => rfl) (fun v514 ev514 => ?_)
              refine g_goto ?_
              refine gG_pick [0, 1, 2, 4, 5] (l' := [(0, .ref 43), (1, .int a1), (2, .long v513), (4, .int v479), (5, .int v514)]) rfl ?_
              exact ihL485 v513 v514 H488 hIH488 hJH488 e492 (by omega) (by omega)
          · refine g_iconst (by decide) (fun v515 kv515 => ?_)
            refine g_goto ?_
            refine g_if2_eq (fun c516 => ?_) (fun c516 => ?_)
            · refine g_iinc (l' := (fun v517 => [(0, .ref 43), (1, .int a1), (2, .long v481), (4, .int v479), (5, .int v517), (6, .int v487), (7, .int v506)])) rfl rfl (by decide) (by omega) (fun _ => rfl) (fun v517 ev517 => ?_)
              refine g_goto ?_
              refine gG_pick [0, 1, 2, 4, 5] (l' := [(0, .ref 43), (1, .int a1), (2, .long v481), (4, .int v479), (5, .int v517)]) rfl ?_
              exact ihL485 v481 v517 H488 hIH488 hJH488 e492 (by omega) (by omega)
            · exfalso; omega
  exact L485 _ v476 v480 H hI hJ ek1_1 (by omega) (Nat.lt_succ_self _)
set_option maxRecDepth 4000 in
set_option maxHeartbeats 4000000 in
/-- X3.outcome -/
theorem s_34 (a1 : Int32) (ha1 : -1 ≤ a1.toInt ∧ a1.toInt ≤ 39) (H : mzH) (hI : gI SX H) (hJ : JX H) : gCall 34 [.ref 43, .int a1] H (gRi (fun v H' => gI SX H' ∧ JX H' ∧ fZ H' 1 1 = fZ H 1 1)) := by
  obtain ⟨k1_1, ek1_1⟩ : ∃ z, z = fZ H 1 1 := ⟨_, rfl⟩
  have ik1_1 : k1_1.toInt = (fZ H 1 1).toInt := by rw [← ek1_1]
  have bk1_1 : 0 ≤ k1_1.toInt ∧ k1_1.toInt ≤ 900 := by rw [ek1_1]; exact fZ_of hI sx_1 rfl
  refine gG_call [(0, .ref 43), (1, .int a1)] ⟨rfl, rfl, trivial⟩ ?_
  show gG 4 zB_34 (mzBlk zB_34 0) [(0, .ref 43), (1, .int a1)] [] H 0 0 _
  refine g_aload_n rfl ?_
  refine g_gfr hI sx_43 rfl ?_
  refine g_invvv hI sx_51 rfl rfl rfl rfl (s_25 51 zCo_51 H hI hJ) (fun H665 r666 => ?_)
  obtain ⟨hIH665, hJH665, w667⟩ := r666
  have e668 : k1_1 = fZ H665 1 1 := ek1_1.trans w667.symm
  refine g_aload_n rfl ?_
  refine g_gfr hIH665 sx_43 rfl ?_
  refine g_invvv hIH665 sx_44 rfl rfl rfl rfl (s_83 44 zWo_44 H665 hIH665 hJH665) (fun H669 r670 => ?_)
  obtain ⟨hIH669, hJH669, w671⟩ := r670
  have e672 : k1_1 = fZ H669 1 1 := e668.trans w671.symm
  refine g_iconst (by decide) (fun v673 kv673 => ?_)
  refine g_istore_n (l' := [(0, .ref 43), (1, .int a1), (2, .int v673)]) rfl rfl ?_
  refine g_iconst (by decide) (fun v674 kv674 => ?_)
  refine g_istore_n (l' := [(0, .ref 43), (1, .int a1), (2, .int v673), (3, .int v674)]) rfl rfl ?_
  refine g_nop ?_
  have L679 : ∀ (N : Nat) (v675 : Int32) (v676 : Int32) (H677 : mzH), gI SX H677 → JX H677 → k1_1 = fZ H677 1 1 → (0 ≤ v676.toInt ∧ v676.toInt ≤ 60) → (60 - v676.toInt).toNat < N → gG 4 zB_34 (mzBlk zB_34 1) [(0, .ref 43), (1, .int a1), (2, .int v675), (3, .int v676)] [] H677 0 0 (gRi (fun v H' => gI SX H' ∧ JX H' ∧ fZ H' 1 1 = fZ H 1 1)) := by
    intro N
    induction N with
    | zero => intro v675 v676 H677 hIH677 hJH677 e678 bv676 hmL679; exact absurd hmL679 (Nat.not_lt_zero _)
    | succ N ihL679 =>
      intro v675 v676 H677 hIH677 hJH677 e678 bv676 hmL679
      refine g_iload_n rfl ?_
      refine g_aload_n rfl ?_
      refine g_gfr hIH677 sx_43 rfl ?_
      refine g_gfi hIH677 sx_51 rfl (fun v680 ev680 lv680 uv680 => ?_)
      refine g_if2_ge (fun c681 => ?_) (fun c681 => ?_)
      · refine g_iload_n rfl ?_
        refine g_if_ge (fun c682 => ?_) (fun c682 => ?_)
        · refine g_aload_n rfl ?_
          refine g_gfr hIH677 sx_43 rfl ?_
          refine g_iload_n rfl ?_
          refine g_invvi hIH677 sx_44 rfl rfl rfl rfl (s_91 44 zWo_44 a1 (by omega) H677 hIH677 hJH677) (fun v685 H683 r684 => ?_)
          obtain rfl := r684
          refine g_nop ?_
          exact g_iret ⟨_, rfl, hIH677, hJH677, (e678.symm.trans ek1_1)⟩
        · refine g_iload_n rfl ?_
          refine g_goto ?_
          exact g_iret ⟨_, rfl, hIH677, hJH677, (e678.symm.trans ek1_1)⟩
      · refine g_iload_n rfl ?_
        refine g_aload_n rfl ?_
        refine g_gfr hIH677 sx_43 rfl ?_
        refine g_aload_n rfl ?_
        refine g_gfr hIH677 sx_43 rfl ?_
        refine g_aload_n rfl ?_
        refine g_gfr hIH677 sx_43 rfl ?_
        refine g_gfr hIH677 sx_51 rfl ?_
        refine g_iload_n rfl ?_
        refine g_iaload hIH677 sx_53 rfl (by omega) (fun v686 ev686 lv686 uv686 => ?_)
        refine g_aload_n rfl ?_
        refine g_gfr hIH677 sx_43 rfl ?_
        refine g_iload_n rfl ?_
        refine g_invvi hIH677 sx_51 rfl rfl rfl rfl (s_27 51 zCo_51 v676 (by omega) H677 hIH677 hJH677) (fun v689 H687 r688 => ?_)
        obtain rfl := r688
        refine g_invvi hIH677 sx_44 rfl rfl rfl rfl (s_93 44 zWo_44 3 zBo_3 v686 (by omega) v689 H677 hIH677 hJH677) (fun v692 H690 r691 => ?_)
        obtain ⟨hIH690, hJH690, w693⟩ := r691
        have e694 : k1_1 = fZ H690 1 1 := e678.trans w693.symm
        refine g_if_eq (fun c695 => ?_) (fun c695 => ?_)
        · refine g_iconst (by decide) (fun v696 kv696 => ?_)
          refine g_nop ?_
          refine g_iadd (by have := gz_any v675; omega) (fun v697 ev697 => ?_)
          refine g_istore_n (l' := [(0, .ref 43), (1, .int a1), (2, .int v697), (3, .int v676)]) rfl rfl ?_
          refine g_iinc (l' := (fun v698 => [(0, .ref 43), (1, .int a1), (2, .int v697), (3, .int v698)])) rfl rfl (by decide) (by omega) (fun _ => rfl) (fun v698 ev698 => ?_)
          refine g_goto ?_
          exact ihL679 v697 v698 H690 hIH690 hJH690 e694 (by omega) (by omega)
        · refine g_iconst (by decide) (fun v699 kv699 => ?_)
          refine g_goto ?_
          refine g_iadd' (fun v700 _ => ?_)
          refine g_istore_n (l' := [(0, .ref 43), (1, .int a1), (2, .int v700), (3, .int v676)]) rfl rfl ?_
          refine g_iinc (l' := (fun v701 => [(0, .ref 43), (1, .int a1), (2, .int v700), (3, .int v701)])) rfl rfl (by decide) (by omega) (fun _ => rfl) (fun v701 ev701 => ?_)
          refine g_goto ?_
          exact ihL679 v700 v701 H690 hIH690 hJH690 e694 (by omega) (by omega)
  exact L679 _ v673 v674 H669 hIH669 hJH669 e672 (by omega) (Nat.lt_succ_self _)
set_option maxRecDepth 4000 in
set_option maxHeartbeats 4000000 in
/-- X3.outcomeAt -/
theorem s_32 (a1 : Int32) (ha1 : 0 ≤ a1.toInt ∧ a1.toInt ≤ 59) (a2 : Int32) (a3 : Int32) (ha3 : -1 ≤ a3.toInt ∧ a3.toInt ≤ 39) (H : mzH) (hI : gI SX H) (hJ : JX H) : gCall 32 [.ref 43, .int a1, .int a2, .int a3] H (gRi (fun v H' => gI SX H' ∧ JX H' ∧ fZ H' 1 1 = fZ H 1 1)) := by
  obtain ⟨k1_1, ek1_1⟩ : ∃ z, z = fZ H 1 1 := ⟨_, rfl⟩
  have ik1_1 : k1_1.toInt = (fZ H 1 1).toInt := by rw [← ek1_1]
  have bk1_1 : 0 ≤ k1_1.toInt ∧ k1_1.toInt ≤ 900 := by rw [ek1_1]; exact fZ_of hI sx_1 rfl
  refine gG_call [(0, .ref 43), (1, .int a1), (2, .int a2), (3, .int a3)] ⟨rfl, rfl, rfl, rfl, trivial⟩ ?_
  show gG 4 zB_32 (mzBlk zB_32 0) [(0, .ref 43), (1, .int a1), (2, .int a2), (3, .int a3)] [] H 0 0 _
  refine g_aload_n rfl ?_
  refine g_gfr hI sx_43 rfl ?_
  refine g_aload_n rfl ?_
  refine g_gfr hI sx_43 rfl ?_
  refine g_invvv hI sx_51 rfl rfl rfl rfl (s_24 51 zCo_51 3 zBo_3 H hI hJ) (fun H45 r46 => ?_)
  obtain ⟨hIH45, hJH45, w47⟩ := r46
  have e48 : k1_1 = fZ H45 1 1 := ek1_1.trans w47.symm
  refine g_aload_n rfl ?_
  refine g_gfr hIH45 sx_43 rfl ?_
  refine g_gfr hIH45 sx_51 rfl ?_
  refine g_iload_n rfl ?_
  refine g_iload_n rfl ?_
  refine g_iastore hIH45 sx_52 (by omega) (gz_any _) (fun H49 eH49 hIH49 => ?_)
  have hJH49 : JX H49 := JX_sA (by omega) eH49 hJH45
  have e50 : k1_1 = fZ H49 1 1 := by rw [eH49, fZ_sA]; exact e48
  refine g_aload_n rfl ?_
  refine g_iload_n rfl ?_
  refine g_invvi hIH49 sx_43 rfl rfl rfl rfl (s_34 a3 (by omega) H49 hIH49 hJH49) (fun v53 H51 r52 => ?_)
  obtain ⟨hIH51, hJH51, w54⟩ := r52
  have e55 : k1_1 = fZ H51 1 1 := e50.trans w54.symm
  exact g_iret ⟨_, rfl, hIH51, hJH51, (e55.symm.trans ek1_1)⟩
set_option maxRecDepth 4000 in
set_option maxHeartbeats 4000000 in
/-- X3.outcomeSwapped -/
theorem s_33 (a1 : Int32) (ha1 : 0 ≤ a1.toInt ∧ a1.toInt ≤ 59) (a2 : Int32) (ha2 : 0 ≤ a2.toInt ∧ a2.toInt ≤ 59) (a3 : Int32) (ha3 : -1 ≤ a3.toInt ∧ a3.toInt ≤ 39) (H : mzH) (hI : gI SX H) (hJ : JX H) : gCall 33 [.ref 43, .int a1, .int a2, .int a3] H (gRi (fun v H' => gI SX H' ∧ JX H' ∧ fZ H' 1 1 = fZ H 1 1)) := by
  obtain ⟨k1_1, ek1_1⟩ : ∃ z, z = fZ H 1 1 := ⟨_, rfl⟩
  have ik1_1 : k1_1.toInt = (fZ H 1 1).toInt := by rw [← ek1_1]
  have bk1_1 : 0 ≤ k1_1.toInt ∧ k1_1.toInt ≤ 900 := by rw [ek1_1]; exact fZ_of hI sx_1 rfl
  refine gG_call [(0, .ref 43), (1, .int a1), (2, .int a2), (3, .int a3)] ⟨rfl, rfl, rfl, rfl, trivial⟩ ?_
  show gG 4 zB_33 (mzBlk zB_33 0) [(0, .ref 43), (1, .int a1), (2, .int a2), (3, .int a3)] [] H 0 0 _
  refine g_aload_n rfl ?_
  refine g_gfr hI sx_43 rfl ?_
  refine g_aload_n rfl ?_
  refine g_gfr hI sx_43 rfl ?_
  refine g_invvv hI sx_51 rfl rfl rfl rfl (s_24 51 zCo_51 3 zBo_3 H hI hJ) (fun H61 r62 => ?_)
  obtain ⟨hIH61, hJH61, w63⟩ := r62
  have e64 : k1_1 = fZ H61 1 1 := ek1_1.trans w63.symm
  refine g_aload_n rfl ?_
  refine g_gfr hIH61 sx_43 rfl ?_
  refine g_gfr hIH61 sx_51 rfl ?_
  refine g_iload_n rfl ?_
  refine g_aload_n rfl ?_
  refine g_gfr hIH61 sx_43 rfl ?_
  refine g_gfr hIH61 sx_3 rfl ?_
  refine g_iload_n rfl ?_
  refine g_iaload hIH61 sx_6 rfl (by omega) (fun v65 ev65 lv65 uv65 => ?_)
  refine g_iastore hIH61 sx_52 (by omega) (gz_any _) (fun H66 eH66 hIH66 => ?_)
  have hJH66 : JX H66 := JX_sA (by omega) eH66 hJH61
  have e67 : k1_1 = fZ H66 1 1 := by rw [eH66, fZ_sA]; exact e64
  refine g_aload_n rfl ?_
  refine g_gfr hIH66 sx_43 rfl ?_
  refine g_gfr hIH66 sx_51 rfl ?_
  refine g_iload_n rfl ?_
  refine g_aload_n rfl ?_
  refine g_gfr hIH66 sx_43 rfl ?_
  refine g_gfr hIH66 sx_3 rfl ?_
  refine g_iload_n rfl ?_
  refine g_iaload hIH66 sx_6 rfl (by omega) (fun v68 ev68 lv68 uv68 => ?_)
  refine g_iastore hIH66 sx_52 (by omega) (gz_any _) (fun H69 eH69 hIH69 => ?_)
  have hJH69 : JX H69 := JX_sA (by omega) eH69 hJH66
  have e70 : k1_1 = fZ H69 1 1 := by rw [eH69, fZ_sA]; exact e67
  refine g_aload_n rfl ?_
  refine g_iload_n rfl ?_
  refine g_invvi hIH69 sx_43 rfl rfl rfl rfl (s_34 a3 (by omega) H69 hIH69 hJH69) (fun v73 H71 r72 => ?_)
  obtain ⟨hIH71, hJH71, w74⟩ := r72
  have e75 : k1_1 = fZ H71 1 1 := e70.trans w74.symm
  exact g_iret ⟨_, rfl, hIH71, hJH71, (e75.symm.trans ek1_1)⟩
set_option maxRecDepth 4000 in
set_option maxHeartbeats 4000000 in
/-- X3.isAheadOf -/
theorem s_36 (a1 : Int32) (ha1 : 0 ≤ a1.toInt ∧ a1.toInt ≤ 59) (a2 : Int32) (a3 : Int32) (H : mzH) (hI : gI SX H) (hJ : JX H) : gCall 36 [.ref 43, .int a1, .int a2, .int a3] H (gRi (fun v H' => H = H' ∧ (0 ≤ v.toInt ∧ v.toInt ≤ 1))) := by
  refine gG_call [(0, .ref 43), (1, .int a1), (2, .int a2), (3, .int a3)] ⟨rfl, rfl, rfl, rfl, trivial⟩ ?_
  show gG 6 zB_36 (mzBlk zB_36 0) [(0, .ref 43), (1, .int a1), (2, .int a2), (3, .int a3)] [] H 0 0 _
  refine g_aload_n rfl ?_
  refine g_gfr hI sx_43 rfl ?_
  refine g_gfr hI sx_24 rfl ?_
  refine g_gfr hI sx_25 rfl ?_
  refine g_iload_n rfl ?_
  refine g_iaload hI sx_27 rfl (by omega) (fun v45 ev45 lv45 uv45 => ?_)
  refine g_istore (l' := [(0, .ref 43), (1, .int a1), (2, .int a2), (3, .int a3), (4, .int v45)]) rfl rfl ?_
  refine g_aload_n rfl ?_
  refine g_gfr hI sx_43 rfl ?_
  refine g_gfr hI sx_3 rfl ?_
  refine g_iload rfl ?_
  refine g_iaload hI sx_6 rfl (by omega) (fun v46 ev46 lv46 uv46 => ?_)
  refine g_istore (l' := [(0, .ref 43), (1, .int a1), (2, .int a2), (3, .int a3), (4, .int v45), (5, .int v46)]) rfl rfl ?_
  refine g_iload rfl ?_
  refine g_iload_n rfl ?_
  refine g_if2_eq (fun c47 => ?_) (fun c47 => ?_)
  · refine g_iconst (by decide) (fun v48 kv48 => ?_)
    refine g_goto ?_
    exact g_zret (by omega) ⟨_, rfl, rfl, (by omega)⟩
  · refine g_iload rfl ?_
    refine g_iload_n rfl ?_
    refine g_if2_lt (fun c49 => ?_) (fun c49 => ?_)
    · refine g_iconst (by decide) (fun v50 kv50 => ?_)
      refine g_goto ?_
      exact g_zret (by omega) ⟨_, rfl, rfl, (by omega)⟩
    · refine g_iload rfl ?_
      refine g_iload_n rfl ?_
      refine g_if2_ne (fun c51 => ?_) (fun c51 => ?_)
      · refine g_iconst (by decide) (fun v52 kv52 => ?_)
        refine g_nop ?_
        exact g_zret (by omega) ⟨_, rfl, rfl, (by omega)⟩
      · refine g_iload rfl ?_
        refine g_iload_n rfl ?_
        refine g_if2_ge (fun c53 => ?_) (fun c53 => ?_)
        · refine g_iconst (by decide) (fun v54 kv54 => ?_)
          refine g_nop ?_
          exact g_zret (by omega) ⟨_, rfl, rfl, (by omega)⟩
        · refine g_nop ?_
          refine g_iconst (by decide) (fun v55 kv55 => ?_)
          refine g_goto ?_
          exact g_zret (by omega) ⟨_, rfl, rfl, (by omega)⟩
set_option maxRecDepth 4000 in
set_option maxHeartbeats 4000000 in
/-- X3.openWindow -/
theorem s_35 (a1 : Int32) (ha1 : 0 ≤ a1.toInt ∧ a1.toInt ≤ 59) (H : mzH) (hI : gI SX H) (hJ : JX H) : gCall 35 [.ref 43, .int a1] H (gRv (fun H' => gI SX H' ∧ JX H' ∧ fZ H' 1 1 = fZ H 1 1)) := by
  obtain ⟨k1_1, ek1_1⟩ : ∃ z, z = fZ H 1 1 := ⟨_, rfl⟩
  have ik1_1 : k1_1.toInt = (fZ H 1 1).toInt := by rw [← ek1_1]
  have bk1_1 : 0 ≤ k1_1.toInt ∧ k1_1.toInt ≤ 900 := by rw [ek1_1]; exact fZ_of hI sx_1 rfl
  refine gG_call [(0, .ref 43), (1, .int a1)] ⟨rfl, rfl, trivial⟩ ?_
  show gG 8 zB_35 (mzBlk zB_35 0) [(0, .ref 43), (1, .int a1)] [] H 0 0 _
  have L4136 : ∀ (N : Nat) (v4130 : Int32) (v4131 : Int32) (v4132 : Int32) (v4133 : Int32) (H4134 : mzH), gI SX H4134 → JX H4134 → k1_1 = fZ H4134 1 1 → (0 ≤ v4130.toInt ∧ v4130.toInt ≤ 60) → (0 ≤ v4131.toInt ∧ v4131.toInt ≤ 1) → (0 ≤ v4132.toInt ∧ v4132.toInt ≤ 1) → (0 ≤ v4133.toInt ∧ v4133.toInt ≤ 1000) → (1000 - v4133.toInt).toNat < N → gG 8 zB_35 (mzBlk zB_35 6) [(0, .ref 43), (1, .int a1), (2, .int v4130), (3, .int v4131), (4, .int v4132), (5, .int v4133)] [] H4134 0 0 (gRv (fun H' => gI SX H' ∧ JX H' ∧ fZ H' 1 1 = fZ H 1 1)) := by
    intro N
    induction N with
    | zero => intro v4130 v4131 v4132 v4133 H4134 hIH4134 hJH4134 e4135 bv4130 bv4131 bv4132 bv4133 hmL4136; exact absurd hmL4136 (Nat.not_lt_zero _)
    | succ N ihL4136 =>
      intro v4130 v4131 v4132 v4133 H4134 hIH4134 hJH4134 e4135 bv4130 bv4131 bv4132 bv4133 hmL4136
      refine g_iload rfl ?_
      refine g_sipush (by decide) (fun v4137 kv4137 => ?_)
      refine g_if2_gt (fun c4138 => ?_) (fun c4138 => ?_)
      · exact g_ret ⟨rfl, hIH4134, hJH4134, (e4135.symm.trans ek1_1)⟩
      · refine g_iload_n rfl ?_
        refine g_istore (l' := [(0, .ref 43), (1, .int a1), (2, .int v4130), (3, .int v4131), (4, .int v4132), (5, .int v4133), (6, .int v4130)]) rfl rfl ?_
        refine g_nop ?_
        have L4142 : ∀ (N : Nat) (v4139 : Int32) (H4140 : mzH), gI SX H4140 → JX H4140 → k1_1 = fZ H4140 1 1 → (0 ≤ v4139.toInt ∧ v4139.toInt ≤ 60) → (60 - v4139.toInt).toNat < N → gG 8 zB_35 (mzBlk zB_35 7) [(0, .ref 43), (1, .int a1), (2, .int v4139), (3, .int v4131), (4, .int v4132), (5, .int v4133), (6, .int v4130)] [] H4140 0 0 (gRv (fun H' => gI SX H' ∧ JX H' ∧ fZ H' 1 1 = fZ H 1 1)) := by
          intro N
          induction N with
          | zero => intro v4139 H4140 hIH4140 hJH4140 e4141 bv4139 hmL4142; exact absurd hmL4142 (Nat.not_lt_zero _)
          | succ N ihL4142 =>
            intro v4139 H4140 hIH4140 hJH4140 e4141 bv4139 hmL4142
            refine g_iload_n rfl ?_
            refine g_aload_n rfl ?_
            refine g_gfr hIH4140 sx_43 rfl ?_
            refine g_gfr hIH4140 sx_24 rfl ?_
            refine g_gfi hIH4140 sx_25 rfl (fun v4143 ev4143 lv4143 uv4143 => ?_)
            refine g_if2_ge (fun c4144 => ?_) (fun c4144 => ?_)
            · refine g_iload_n rfl ?_
              refine g_iload rfl ?_
              refine g_if2_ne (fun c4145 => ?_) (fun c4145 => ?_)
              · refine g_aload_n rfl ?_
                refine g_gfr hIH4140 sx_43 rfl ?_
                refine g_aload_n rfl ?_
                refine g_gfr hIH4140 sx_43 rfl ?_
                refine g_iload_n rfl ?_
                refine g_iload rfl ?_
                refine g_invvi hIH4140 sx_44 rfl rfl rfl rfl (s_94 44 zWo_44 3 zBo_3 a1 (by omega) v4133 H4140 hIH4140 hJH4140) (fun v4148 H4146 r4147 => ?_)
                obtain rfl := r4147
                refine g_if_ne (fun c4149 => ?_) (fun c4149 => ?_)
                · refine g_iconst (by decide) (fun v4150 kv4150 => ?_)
                  refine g_nop ?_
                  refine g_istore_n (l' := [(0, .ref 43), (1, .int a1), (2, .int v4139), (3, .int v4150), (4, .int v4132), (5, .int v4133), (6, .int v4130)]) rfl rfl ?_
                  refine g_nop ?_
                  refine g_iload_n rfl ?_
                  refine g_if_eq (fun c4151 => ?_) (fun c4151 => ?_)
                  · refine g_iinc (l' := (fun v4152 => [(0, .ref 43), (1, .int a1), (2, .int v4139), (3, .int v4150), (4, .int v4132), (5, .int v4152), (6, .int v4130)])) rfl rfl (by decide) (by omega) (fun _ => rfl) (fun v4152 ev4152 => ?_)
                    refine g_goto ?_
                    refine gG_pick [0, 1, 2, 3, 4, 5] (l' := [(0, .ref 43), (1, .int a1), (2, .int v4139), (3, .int v4150), (4, .int v4132), (5, .int v4152)]) rfl ?_
                    exact ihL4136 v4139 v4150 v4132 v4152 H4140 hIH4140 hJH4140 e4141 (by omega) (by omega) (by omega) (by omega) (by omega)
                  · exfalso; omega
                · refine g_iconst (by decide) (fun v4153 kv4153 => ?_)
                  refine g_goto ?_
                  refine g_istore_n (l' := [(0, .ref 43), (1, .int a1), (2, .int v4139), (3, .int v4153), (4, .int v4132), (5, .int v4133), (6, .int v4130)]) rfl rfl ?_
                  refine g_nop ?_
                  refine g_iload_n rfl ?_
                  refine g_if_eq (fun c4154 => ?_) (fun c4154 => ?_)
                  · exfalso; omega
                  · refine g_aload_n rfl ?_
                    refine g_aload_n rfl ?_
                    refine g_gfi hIH4140 sx_43 rfl (fun v4155 ev4155 lv4155 uv4155 => ?_)
                    refine g_if_ne (fun c4156 => ?_) (fun c4156 => ?_)
                    · refine g_aload_n rfl ?_
                      refine g_gfi hIH4140 sx_43 rfl (fun v4157 ev4157 lv4157 uv4157 => ?_)
                      refine g_nop ?_
                      refine g_pfi hIH4140 sx_43 rfl (gz_any _) (fun H4158 eH4158 hIH4158 => ?_)
                      have hJH4158 : JX H4158 := JX_sF eH4158 hJH4140
                      have e4159 : k1_1 = fZ H4158 1 1 := by rw [eH4158, fZ_sF_nc (by omega)]; exact e4141
                      refine g_aload_n rfl ?_
                      refine g_iload rfl ?_
                      refine g_pfi hIH4158 sx_43 rfl (gz_any _) (fun H4160 eH4160 hIH4160 => ?_)
                      have hJH4160 : JX H4160 := JX_sF eH4160 hJH4158
                      have e4161 : k1_1 = fZ H4160 1 1 := by rw [eH4160, fZ_sF_nc (by omega)]; exact e4159
                      refine g_aload_n rfl ?_
                      refine g_dup rfl ?_
                      refine g_gfi hIH4160 sx_43 rfl (fun v4162 ev4162 lv4162 uv4162 => ?_)
                      refine g_iconst (by decide) (fun v4163 kv4163 => ?_)
                      refine g_iadd' (fun v4164 _ => ?_)
                      refine g_pfi hIH4160 sx_43 rfl (gz_any _) (fun H4165 eH4165 hIH4165 => ?_)
                      have hJH4165 : JX H4165 := JX_sF eH4165 hJH4160
                      have e4166 : k1_1 = fZ H4165 1 1 := by rw [eH4165, fZ_sF_nc (by omega)]; exact e4161
                      refine g_nop ?_
                      refine g_iinc (l' := (fun v4167 => [(0, .ref 43), (1, .int a1), (2, .int v4139), (3, .int v4153), (4, .int v4132), (5, .int v4167), (6, .int v4130)])) rfl rfl (by decide) (by omega) (fun _ => rfl) (fun v4167 ev4167 => ?_)
                      refine g_goto ?_
                      refine gG_pick [0, 1, 2, 3, 4, 5] (l' := [(0, .ref 43), (1, .int a1), (2, .int v4139), (3, .int v4153), (4, .int v4132), (5, .int v4167)]) rfl ?_
                      exact ihL4136 v4139 v4153 v4132 v4167 H4165 hIH4165 hJH4165 e4166 (by omega) (by omega) (by omega) (by omega) (by omega)
                    · refine g_iload rfl ?_
                      refine g_goto ?_
                      refine g_pfi hIH4140 sx_43 rfl (gz_any _) (fun H4168 eH4168 hIH4168 => ?_)
                      have hJH4168 : JX H4168 := JX_sF eH4168 hJH4140
                      have e4169 : k1_1 = fZ H4168 1 1 := by rw [eH4168, fZ_sF_nc (by omega)]; exact e4141
                      refine g_aload_n rfl ?_
                      refine g_iload rfl ?_
                      refine g_pfi hIH4168 sx_43 rfl (gz_any _) (fun H4170 eH4170 hIH4170 => ?_)
                      have hJH4170 : JX H4170 := JX_sF eH4170 hJH4168
                      have e4171 : k1_1 = fZ H4170 1 1 := by rw [eH4170, fZ_sF_nc (by omega)]; exact e4169
                      refine g_aload_n rfl ?_
                      refine g_dup rfl ?_
                      refine g_gfi hIH4170 sx_43 rfl (fun v4172 ev4172 lv4172 uv4172 => ?_)
                      refine g_iconst (by decide) (fun v4173 kv4173 => ?_)
                      refine g_iadd' (fun v4174 _ => ?_)
                      refine g_pfi hIH4170 sx_43 rfl (gz_any _) (fun H4175 eH4175 hIH4175 => ?_)
                      have hJH4175 : JX H4175 := JX_sF eH4175 hJH4170
                      have e4176 : k1_1 = fZ H4175 1 1 := by rw [eH4175, fZ_sF_nc (by omega)]; exact e4171
                      refine g_nop ?_
                      refine g_iinc (l' := (fun v4177 => [(0, .ref 43), (1, .int a1), (2, .int v4139), (3, .int v4153), (4, .int v4132), (5, .int v4177), (6, .int v4130)])) rfl rfl (by decide) (by omega) (fun _ => rfl) (fun v4177 ev4177 => ?_)
                      refine g_goto ?_
                      refine gG_pick [0, 1, 2, 3, 4, 5] (l' := [(0, .ref 43), (1, .int a1), (2, .int v4139), (3, .int v4153), (4, .int v4132), (5, .int v4177)]) rfl ?_
                      exact ihL4136 v4139 v4153 v4132 v4177 H4175 hIH4175 hJH4175 e4176 (by omega) (by omega) (by omega) (by omega) (by omega)
              · refine g_iload rfl ?_
                refine g_if_eq (fun c4178 => ?_) (fun c4178 => ?_)
                · refine g_iload_n rfl ?_
                  refine g_if_eq (fun c4179 => ?_) (fun c4179 => ?_)
                  · refine g_iinc (l' := (fun v4180 => [(0, .ref 43), (1, .int a1), (2, .int v4139), (3, .int v4131), (4, .int v4132), (5, .int v4180), (6, .int v4130)])) rfl rfl (by decide) (by omega) (fun _ => rfl) (fun v4180 ev4180 => ?_)
                    refine g_goto ?_
                    refine gG_pick [0, 1, 2, 3, 4, 5] (l' := [(0, .ref 43), (1, .int a1), (2, .int v4139), (3, .int v4131), (4, .int v4132), (5, .int v4180)]) rfl ?_
                    exact ihL4136 v4139 v4131 v4132 v4180 H4140 hIH4140 hJH4140 e4141 (by omega) (by omega) (by omega) (by omega) (by omega)
                  · refine g_aload_n rfl ?_
                    refine g_aload_n rfl ?_
                    refine g_gfi hIH4140 sx_43 rfl (fun v4181 ev4181 lv4181 uv4181 => ?_)
                    refine g_if_ne (fun c4182 => ?_) (fun c4182 => ?_)
                    · refine g_aload_n rfl ?_
                      refine g_gfi hIH4140 sx_43 rfl (fun v4183 ev4183 lv4183 uv4183 => ?_)
                      refine g_nop ?_
                      refine g_pfi hIH4140 sx_43 rfl (gz_any _) (fun H4184 eH4184 hIH4184 => ?_)
                      have hJH4184 : JX H4184 := JX_sF eH4184 hJH4140
                      have e4185 : k1_1 = fZ H4184 1 1 := by rw [eH4184, fZ_sF_nc (by omega)]; exact e4141
                      refine g_aload_n rfl ?_
                      refine g_iload rfl ?_
                      refine g_pfi hIH4184 sx_43 rfl (gz_any _) (fun H4186 eH4186 hIH4186 => ?_)
                      have hJH4186 : JX H4186 := JX_sF eH4186 hJH4184
                      have e4187 : k1_1 = fZ H4186 1 1 := by rw [eH4186, fZ_sF_nc (by omega)]; exact e4185
                      refine g_aload_n rfl ?_
                      refine g_dup rfl ?_
                      refine g_gfi hIH4186 sx_43 rfl (fun v4188 ev4188 lv4188 uv4188 => ?_)
                      refine g_iconst (by decide) (fun v4189 kv4189 => ?_)
                      refine g_iadd' (fun v4190 _ => ?_)
                      refine g_pfi hIH4186 sx_43 rfl (gz_any _) (fun H4191 eH4191 hIH4191 => ?_)
                      have hJH4191 : JX H4191 := JX_sF eH4191 hJH4186
                      have e4192 : k1_1 = fZ H4191 1 1 := by rw [eH4191, fZ_sF_nc (by omega)]; exact e4187
                      refine g_nop ?_
                      refine g_iinc (l' := (fun v4193 => [(0, .ref 43), (1, .int a1), (2, .int v4139), (3, .int v4131), (4, .int v4132), (5, .int v4193), (6, .int v4130)])) rfl rfl (by decide) (by omega) (fun _ => rfl) (fun v4193 ev4193 => ?_)
                      refine g_goto ?_
                      refine gG_pick [0, 1, 2, 3, 4, 5] (l' := [(0, .ref 43), (1, .int a1), (2, .int v4139), (3, .int v4131), (4, .int v4132), (5, .int v4193)]) rfl ?_
                      exact ihL4136 v4139 v4131 v4132 v4193 H4191 hIH4191 hJH4191 e4192 (by omega) (by omega) (by omega) (by omega) (by omega)
                    · refine g_iload rfl ?_
                      refine g_goto ?_
                      refine g_pfi hIH4140 sx_43 rfl (gz_any _) (fun H4194 eH4194 hIH4194 => ?_)
                      have hJH4194 : JX H4194 := JX_sF eH4194 hJH4140
                      have e4195 : k1_1 = fZ H4194 1 1 := by rw [eH4194, fZ_sF_nc (by omega)]; exact e4141
                      refine g_aload_n rfl ?_
                      refine g_iload rfl ?_
                      refine g_pfi hIH4194 sx_43 rfl (gz_any _) (fun H4196 eH4196 hIH4196 => ?_)
                      have hJH4196 : JX H4196 := JX_sF eH4196 hJH4194
                      have e4197 : k1_1 = fZ H4196 1 1 := by rw [eH4196, fZ_sF_nc (by omega)]; exact e4195
                      refine g_aload_n rfl ?_
                      refine g_dup rfl ?_
                      refine g_gfi hIH4196 sx_43 rfl (fun v4198 ev4198 lv4198 uv4198 => ?_)
                      refine g_iconst (by decide) (fun v4199 kv4199 => ?_)
                      refine g_iadd' (fun v4200 _ => ?_)
                      refine g_pfi hIH4196 sx_43 rfl (gz_any _) (fun H4201 eH4201 hIH4201 => ?_)
                      have hJH4201 : JX H4201 := JX_sF eH4201 hJH4196
                      have e4202 : k1_1 = fZ H4201 1 1 := by rw [eH4201, fZ_sF_nc (by omega)]; exact e4197
                      refine g_nop ?_
                      refine g_iinc (l' := (fun v4203 => [(0, .ref 43), (1, .int a1), (2, .int v4139), (3, .int v4131), (4, .int v4132), (5, .int v4203), (6, .int v4130)])) rfl rfl (by decide) (by omega) (fun _ => rfl) (fun v4203 ev4203 => ?_)
                      refine g_goto ?_
                      refine gG_pick [0, 1, 2, 3, 4, 5] (l' := [(0, .ref 43), (1, .int a1), (2, .int v4139), (3, .int v4131), (4, .int v4132), (5, .int v4203)]) rfl ?_
                      exact ihL4136 v4139 v4131 v4132 v4203 H4201 hIH4201 hJH4201 e4202 (by omega) (by omega) (by omega) (by omega) (by omega)
                · refine g_nop ?_
                  refine g_aload_n rfl ?_
                  refine g_gfr hIH4140 sx_43 rfl ?_
                  refine g_aload_n rfl ?_
                  refine g_gfr hIH4140 sx_43 rfl ?_
                  refine g_iload_n rfl ?_
                  refine g_iload rfl ?_
                  refine g_invvi hIH4140 sx_44 rfl rfl rfl rfl (s_94 44 zWo_44 3 zBo_3 a1 (by omega) v4133 H4140 hIH4140 hJH4140) (fun v4206 H4204 r4205 => ?_)
                  obtain rfl := r4205
                  refine g_if_ne (fun c4207 => ?_) (fun c4207 => ?_)
                  · refine g_iconst (by decide) (fun v4208 kv4208 => ?_)
                    refine g_nop ?_
                    refine g_istore_n (l' := [(0, .ref 43), (1, .int a1), (2, .int v4139), (3, .int v4208), (4, .int v4132), (5, .int v4133), (6, .int v4130)]) rfl rfl ?_
                    refine g_nop ?_
                    refine g_iload_n rfl ?_
                    refine g_if_eq (fun c4209 => ?_) (fun c4209 => ?_)
                    · refine g_iinc (l' := (fun v4210 => [(0, .ref 43), (1, .int a1), (2, .int v4139), (3, .int v4208), (4, .int v4132), (5, .int v4210), (6, .int v4130)])) rfl rfl (by decide) (by omega) (fun _ => rfl) (fun v4210 ev4210 => ?_)
                      refine g_goto ?_
                      refine gG_pick [0, 1, 2, 3, 4, 5] (l' := [(0, .ref 43), (1, .int a1), (2, .int v4139), (3, .int v4208), (4, .int v4132), (5, .int v4210)]) rfl ?_
                      exact ihL4136 v4139 v4208 v4132 v4210 H4140 hIH4140 hJH4140 e4141 (by omega) (by omega) (by omega) (by omega) (by omega)
                    · exfalso; omega
                  · refine g_iconst (by decide) (fun v4211 kv4211 => ?_)
                    refine g_goto ?_
                    refine g_istore_n (l' := [(0, .ref 43), (1, .int a1), (2, .int v4139), (3, .int v4211), (4, .int v4132), (5, .int v4133), (6, .int v4130)]) rfl rfl ?_
                    refine g_nop ?_
                    refine g_iload_n rfl ?_
                    refine g_if_eq (fun c4212 => ?_) (fun c4212 => ?_)
                    · exfalso; omega
                    · refine g_aload_n rfl ?_
                      refine g_aload_n rfl ?_
                      refine g_gfi hIH4140 sx_43 rfl (fun v4213 ev4213 lv4213 uv4213 => ?_)
                      refine g_if_ne (fun c4214 => ?_) (fun c4214 => ?_)
                      · refine g_aload_n rfl ?_
                        refine g_gfi hIH4140 sx_43 rfl (fun v4215 ev4215 lv4215 uv4215 => ?_)
                        refine g_nop ?_
                        refine g_pfi hIH4140 sx_43 rfl (gz_any _) (fun H4216 eH4216 hIH4216 => ?_)
                        have hJH4216 : JX H4216 := JX_sF eH4216 hJH4140
                        have e4217 : k1_1 = fZ H4216 1 1 := by rw [eH4216, fZ_sF_nc (by omega)]; exact e4141
                        refine g_aload_n rfl ?_
                        refine g_iload rfl ?_
                        refine g_pfi hIH4216 sx_43 rfl (gz_any _) (fun H4218 eH4218 hIH4218 => ?_)
                        have hJH4218 : JX H4218 := JX_sF eH4218 hJH4216
                        have e4219 : k1_1 = fZ H4218 1 1 := by rw [eH4218, fZ_sF_nc (by omega)]; exact e4217
                        refine g_aload_n rfl ?_
                        refine g_dup rfl ?_
                        refine g_gfi hIH4218 sx_43 rfl (fun v4220 ev4220 lv4220 uv4220 => ?_)
                        refine g_iconst (by decide) (fun v4221 kv4221 => ?_)
                        refine g_iadd' (fun v4222 _ => ?_)
                        refine g_pfi hIH4218 sx_43 rfl (gz_any _) (fun H4223 eH4223 hIH4223 => ?_)
                        have hJH4223 : JX H4223 := JX_sF eH4223 hJH4218
                        have e4224 : k1_1 = fZ H4223 1 1 := by rw [eH4223, fZ_sF_nc (by omega)]; exact e4219
                        refine g_nop ?_
                        refine g_iinc (l' := (fun v4225 => [(0, .ref 43), (1, .int a1), (2, .int v4139), (3, .int v4211), (4, .int v4132), (5, .int v4225), (6, .int v4130)])) rfl rfl (by decide) (by omega) (fun _ => rfl) (fun v4225 ev4225 => ?_)
                        refine g_goto ?_
                        refine gG_pick [0, 1, 2, 3, 4, 5] (l' := [(0, .ref 43), (1, .int a1), (2, .int v4139), (3, .int v4211), (4, .int v4132), (5, .int v4225)]) rfl ?_
                        exact ihL4136 v4139 v4211 v4132 v4225 H4223 hIH4223 hJH4223 e4224 (by omega) (by omega) (by omega) (by omega) (by omega)
                      · refine g_iload rfl ?_
                        refine g_goto ?_
                        refine g_pfi hIH4140 sx_43 rfl (gz_any _) (fun H4226 eH4226 hIH4226 => ?_)
                        have hJH4226 : JX H4226 := JX_sF eH4226 hJH4140
                        have e4227 : k1_1 = fZ H4226 1 1 := by rw [eH4226, fZ_sF_nc (by omega)]; exact e4141
                        refine g_aload_n rfl ?_
                        refine g_iload rfl ?_
                        refine g_pfi hIH4226 sx_43 rfl (gz_any _) (fun H4228 eH4228 hIH4228 => ?_)
                        have hJH4228 : JX H4228 := JX_sF eH4228 hJH4226
                        have e4229 : k1_1 = fZ H4228 1 1 := by rw [eH4228, fZ_sF_nc (by omega)]; exact e4227
                        refine g_aload_n rfl ?_
                        refine g_dup rfl ?_
                        refine g_gfi hIH4228 sx_43 rfl (fun v4230 ev4230 lv4230 uv4230 => ?_)
                        refine g_iconst (by decide) (fun v4231 kv4231 => ?_)
                        refine g_iadd' (fun v4232 _ => ?_)
                        refine g_pfi hIH4228 sx_43 rfl (gz_any _) (fun H4233 eH4233 hIH4233 => ?_)
                        have hJH4233 : JX H4233 := JX_sF eH4233 hJH4228
                        have e4234 : k1_1 = fZ H4233 1 1 := by rw [eH4233, fZ_sF_nc (by omega)]; exact e4229
                        refine g_nop ?_
                        refine g_iinc (l' := (fun v4235 => [(0, .ref 43), (1, .int a1), (2, .int v4139), (3, .int v4211), (4, .int v4132), (5, .int v4235), (6, .int v4130)])) rfl rfl (by decide) (by omega) (fun _ => rfl) (fun v4235 ev4235 => ?_)
                        refine g_goto ?_
                        refine gG_pick [0, 1, 2, 3, 4, 5] (l' := [(0, .ref 43), (1, .int a1), (2, .int v4139), (3, .int v4211), (4, .int v4132), (5, .int v4235)]) rfl ?_
                        exact ihL4136 v4139 v4211 v4132 v4235 H4233 hIH4233 hJH4233 e4234 (by omega) (by omega) (by omega) (by omega) (by omega)
            · refine g_aload_n rfl ?_
              refine g_iload_n rfl ?_
              refine g_iload_n rfl ?_
              refine g_iload rfl ?_
              refine g_invvi hIH4140 sx_43 rfl rfl rfl rfl (s_36 v4139 (by omega) a1 v4133 H4140 hIH4140 hJH4140) (fun v4238 H4236 r4237 => ?_)
              obtain ⟨rfl, bv4238⟩ := r4237
              refine g_if_eq (fun c4239 => ?_) (fun c4239 => ?_)
              · refine g_iload_n rfl ?_
                refine g_iload rfl ?_
                refine g_if2_ne (fun c4240 => ?_) (fun c4240 => ?_)
                · refine g_aload_n rfl ?_
                  refine g_gfr hIH4140 sx_43 rfl ?_
                  refine g_aload_n rfl ?_
                  refine g_gfr hIH4140 sx_43 rfl ?_
                  refine g_iload_n rfl ?_
                  refine g_iload rfl ?_
                  refine g_invvi hIH4140 sx_44 rfl rfl rfl rfl (s_94 44 zWo_44 3 zBo_3 a1 (by omega) v4133 H4140 hIH4140 hJH4140) (fun v4243 H4241 r4242 => ?_)
                  obtain rfl := r4242
                  refine g_if_ne (fun c4244 => ?_) (fun c4244 => ?_)
                  · refine g_iconst (by decide) (fun v4245 kv4245 => ?_)
                    refine g_nop ?_
                    refine g_istore_n (l' := [(0, .ref 43), (1, .int a1), (2, .int v4139), (3, .int v4245), (4, .int v4132), (5, .int v4133), (6, .int v4130)]) rfl rfl ?_
                    refine g_nop ?_
                    refine g_iload_n rfl ?_
                    refine g_if_eq (fun c4246 => ?_) (fun c4246 => ?_)
                    · refine g_iinc (l' := (fun v4247 => [(0, .ref 43), (1, .int a1), (2, .int v4139), (3, .int v4245), (4, .int v4132), (5, .int v4247), (6, .int v4130)])) rfl rfl (by decide) (by omega) (fun _ => rfl) (fun v4247 ev4247 => ?_)
                      refine g_goto ?_
                      refine gG_pick [0, 1, 2, 3, 4, 5] (l' := [(0, .ref 43), (1, .int a1), (2, .int v4139), (3, .int v4245), (4, .int v4132), (5, .int v4247)]) rfl ?_
                      exact ihL4136 v4139 v4245 v4132 v4247 H4140 hIH4140 hJH4140 e4141 (by omega) (by omega) (by omega) (by omega) (by omega)
                    · exfalso; omega
                  · refine g_iconst (by decide) (fun v4248 kv4248 => ?_)
                    refine g_goto ?_
                    refine g_istore_n (l' := [(0, .ref 43), (1, .int a1), (2, .int v4139), (3, .int v4248), (4, .int v4132), (5, .int v4133), (6, .int v4130)]) rfl rfl ?_
                    refine g_nop ?_
                    refine g_iload_n rfl ?_
                    refine g_if_eq (fun c4249 => ?_) (fun c4249 => ?_)
                    · exfalso; omega
                    · refine g_aload_n rfl ?_
                      refine g_aload_n rfl ?_
                      refine g_gfi hIH4140 sx_43 rfl (fun v4250 ev4250 lv4250 uv4250 => ?_)
                      refine g_if_ne (fun c4251 => ?_) (fun c4251 => ?_)
                      · refine g_aload_n rfl ?_
                        refine g_gfi hIH4140 sx_43 rfl (fun v4252 ev4252 lv4252 uv4252 => ?_)
                        refine g_nop ?_
                        refine g_pfi hIH4140 sx_43 rfl (gz_any _) (fun H4253 eH4253 hIH4253 => ?_)
                        have hJH4253 : JX H4253 := JX_sF eH4253 hJH4140
                        have e4254 : k1_1 = fZ H4253 1 1 := by rw [eH4253, fZ_sF_nc (by omega)]; exact e4141
                        refine g_aload_n rfl ?_
                        refine g_iload rfl ?_
                        refine g_pfi hIH4253 sx_43 rfl (gz_any _) (fun H4255 eH4255 hIH4255 => ?_)
                        have hJH4255 : JX H4255 := JX_sF eH4255 hJH4253
                        have e4256 : k1_1 = fZ H4255 1 1 := by rw [eH4255, fZ_sF_nc (by omega)]; exact e4254
                        refine g_aload_n rfl ?_
                        refine g_dup rfl ?_
                        refine g_gfi hIH4255 sx_43 rfl (fun v4257 ev4257 lv4257 uv4257 => ?_)
                        refine g_iconst (by decide) (fun v4258 kv4258 => ?_)
                        refine g_iadd' (fun v4259 _ => ?_)
                        refine g_pfi hIH4255 sx_43 rfl (gz_any _) (fun H4260 eH4260 hIH4260 => ?_)
                        have hJH4260 : JX H4260 := JX_sF eH4260 hJH4255
                        have e4261 : k1_1 = fZ H4260 1 1 := by rw [eH4260, fZ_sF_nc (by omega)]; exact e4256
                        refine g_nop ?_
                        refine g_iinc (l' := (fun v4262 => [(0, .ref 43), (1, .int a1), (2, .int v4139), (3, .int v4248), (4, .int v4132), (5, .int v4262), (6, .int v4130)])) rfl rfl (by decide) (by omega) (fun _ => rfl) (fun v4262 ev4262 => ?_)
                        refine g_goto ?_
                        refine gG_pick [0, 1, 2, 3, 4, 5] (l' := [(0, .ref 43), (1, .int a1), (2, .int v4139), (3, .int v4248), (4, .int v4132), (5, .int v4262)]) rfl ?_
                        exact ihL4136 v4139 v4248 v4132 v4262 H4260 hIH4260 hJH4260 e4261 (by omega) (by omega) (by omega) (by omega) (by omega)
                      · refine g_iload rfl ?_
                        refine g_goto ?_
                        refine g_pfi hIH4140 sx_43 rfl (gz_any _) (fun H4263 eH4263 hIH4263 => ?_)
                        have hJH4263 : JX H4263 := JX_sF eH4263 hJH4140
                        have e4264 : k1_1 = fZ H4263 1 1 := by rw [eH4263, fZ_sF_nc (by omega)]; exact e4141
                        refine g_aload_n rfl ?_
                        refine g_iload rfl ?_
                        refine g_pfi hIH4263 sx_43 rfl (gz_any _) (fun H4265 eH4265 hIH4265 => ?_)
                        have hJH4265 : JX H4265 := JX_sF eH4265 hJH4263
                        have e4266 : k1_1 = fZ H4265 1 1 := by rw [eH4265, fZ_sF_nc (by omega)]; exact e4264
                        refine g_aload_n rfl ?_
                        refine g_dup rfl ?_
                        refine g_gfi hIH4265 sx_43 rfl (fun v4267 ev4267 lv4267 uv4267 => ?_)
                        refine g_iconst (by decide) (fun v4268 kv4268 => ?_)
                        refine g_iadd' (fun v4269 _ => ?_)
                        refine g_pfi hIH4265 sx_43 rfl (gz_any _) (fun H4270 eH4270 hIH4270 => ?_)
                        have hJH4270 : JX H4270 := JX_sF eH4270 hJH4265
                        have e4271 : k1_1 = fZ H4270 1 1 := by rw [eH4270, fZ_sF_nc (by omega)]; exact e4266
                        refine g_nop ?_
                        refine g_iinc (l' := (fun v4272 => [(0, .ref 43), (1, .int a1), (2, .int v4139), (3, .int v4248), (4, .int v4132), (5, .int v4272), (6, .int v4130)])) rfl rfl (by decide) (by omega) (fun _ => rfl) (fun v4272 ev4272 => ?_)
                        refine g_goto ?_
                        refine gG_pick [0, 1, 2, 3, 4, 5] (l' := [(0, .ref 43), (1, .int a1), (2, .int v4139), (3, .int v4248), (4, .int v4132), (5, .int v4272)]) rfl ?_
                        exact ihL4136 v4139 v4248 v4132 v4272 H4270 hIH4270 hJH4270 e4271 (by omega) (by omega) (by omega) (by omega) (by omega)
                · refine g_iload rfl ?_
                  refine g_if_eq (fun c4273 => ?_) (fun c4273 => ?_)
                  · refine g_iload_n rfl ?_
                    refine g_if_eq (fun c4274 => ?_) (fun c4274 => ?_)
                    · refine g_iinc (l' := (fun v4275 => [(0, .ref 43), (1, .int a1), (2, .int v4139), (3, .int v4131), (4, .int v4132), (5, .int v4275), (6, .int v4130)])) rfl rfl (by decide) (by omega) (fun _ => rfl) (fun v4275 ev4275 => ?_)
                      refine g_goto ?_
                      refine gG_pick [0, 1, 2, 3, 4, 5] (l' := [(0, .ref 43), (1, .int a1), (2, .int v4139), (3, .int v4131), (4, .int v4132), (5, .int v4275)]) rfl ?_
                      exact ihL4136 v4139 v4131 v4132 v4275 H4140 hIH4140 hJH4140 e4141 (by omega) (by omega) (by omega) (by omega) (by omega)
                    · refine g_aload_n rfl ?_
                      refine g_aload_n rfl ?_
                      refine g_gfi hIH4140 sx_43 rfl (fun v4276 ev4276 lv4276 uv4276 => ?_)
                      refine g_if_ne (fun c4277 => ?_) (fun c4277 => ?_)
                      · refine g_aload_n rfl ?_
                        refine g_gfi hIH4140 sx_43 rfl (fun v4278 ev4278 lv4278 uv4278 => ?_)
                        refine g_nop ?_
                        refine g_pfi hIH4140 sx_43 rfl (gz_any _) (fun H4279 eH4279 hIH4279 => ?_)
                        have hJH4279 : JX H4279 := JX_sF eH4279 hJH4140
                        have e4280 : k1_1 = fZ H4279 1 1 := by rw [eH4279, fZ_sF_nc (by omega)]; exact e4141
                        refine g_aload_n rfl ?_
                        refine g_iload rfl ?_
                        refine g_pfi hIH4279 sx_43 rfl (gz_any _) (fun H4281 eH4281 hIH4281 => ?_)
                        have hJH4281 : JX H4281 := JX_sF eH4281 hJH4279
                        have e4282 : k1_1 = fZ H4281 1 1 := by rw [eH4281, fZ_sF_nc (by omega)]; exact e4280
                        refine g_aload_n rfl ?_
                        refine g_dup rfl ?_
                        refine g_gfi hIH4281 sx_43 rfl (fun v4283 ev4283 lv4283 uv4283 => ?_)
                        refine g_iconst (by decide) (fun v4284 kv4284 => ?_)
                        refine g_iadd' (fun v4285 _ => ?_)
                        refine g_pfi hIH4281 sx_43 rfl (gz_any _) (fun H4286 eH4286 hIH4286 => ?_)
                        have hJH4286 : JX H4286 := JX_sF eH4286 hJH4281
                        have e4287 : k1_1 = fZ H4286 1 1 := by rw [eH4286, fZ_sF_nc (by omega)]; exact e4282
                        refine g_nop ?_
                        refine g_iinc (l' := (fun v4288 => [(0, .ref 43), (1, .int a1), (2, .int v4139), (3, .int v4131), (4, .int v4132), (5, .int v4288), (6, .int v4130)])) rfl rfl (by decide) (by omega) (fun _ => rfl) (fun v4288 ev4288 => ?_)
                        refine g_goto ?_
                        refine gG_pick [0, 1, 2, 3, 4, 5] (l' := [(0, .ref 43), (1, .int a1), (2, .int v4139), (3, .int v4131), (4, .int v4132), (5, .int v4288)]) rfl ?_
                        exact ihL4136 v4139 v4131 v4132 v4288 H4286 hIH4286 hJH4286 e4287 (by omega) (by omega) (by omega) (by omega) (by omega)
                      · refine g_iload rfl ?_
                        refine g_goto ?_
                        refine g_pfi hIH4140 sx_43 rfl (gz_any _) (fun H4289 eH4289 hIH4289 => ?_)
                        have hJH4289 : JX H4289 := JX_sF eH4289 hJH4140
                        have e4290 : k1_1 = fZ H4289 1 1 := by rw [eH4289, fZ_sF_nc (by omega)]; exact e4141
                        refine g_aload_n rfl ?_
                        refine g_iload rfl ?_
                        refine g_pfi hIH4289 sx_43 rfl (gz_any _) (fun H4291 eH4291 hIH4291 => ?_)
                        have hJH4291 : JX H4291 := JX_sF eH4291 hJH4289
                        have e4292 : k1_1 = fZ H4291 1 1 := by rw [eH4291, fZ_sF_nc (by omega)]; exact e4290
                        refine g_aload_n rfl ?_
                        refine g_dup rfl ?_
                        refine g_gfi hIH4291 sx_43 rfl (fun v4293 ev4293 lv4293 uv4293 => ?_)
                        refine g_iconst (by decide) (fun v4294 kv4294 => ?_)
                        refine g_iadd' (fun v4295 _ => ?_)
                        refine g_pfi hIH4291 sx_43 rfl (gz_any _) (fun H4296 eH4296 hIH4296 => ?_)
                        have hJH4296 : JX H4296 := JX_sF eH4296 hJH4291
                        have e4297 : k1_1 = fZ H4296 1 1 := by rw [eH4296, fZ_sF_nc (by omega)]; exact e4292
                        refine g_nop ?_
                        refine g_iinc (l' := (fun v4298 => [(0, .ref 43), (1, .int a1), (2, .int v4139), (3, .int v4131), (4, .int v4132), (5, .int v4298), (6, .int v4130)])) rfl rfl (by decide) (by omega) (fun _ => rfl) (fun v4298 ev4298 => ?_)
                        refine g_goto ?_
                        refine gG_pick [0, 1, 2, 3, 4, 5] (l' := [(0, .ref 43), (1, .int a1), (2, .int v4139), (3, .int v4131), (4, .int v4132), (5, .int v4298)]) rfl ?_
                        exact ihL4136 v4139 v4131 v4132 v4298 H4296 hIH4296 hJH4296 e4297 (by omega) (by omega) (by omega) (by omega) (by omega)
                  · refine g_nop ?_
                    refine g_aload_n rfl ?_
                    refine g_gfr hIH4140 sx_43 rfl ?_
                    refine g_aload_n rfl ?_
                    refine g_gfr hIH4140 sx_43 rfl ?_
                    refine g_iload_n rfl ?_
                    refine g_iload rfl ?_
                    refine g_invvi hIH4140 sx_44 rfl rfl rfl rfl (s_94 44 zWo_44 3 zBo_3 a1 (by omega) v4133 H4140 hIH4140 hJH4140) (fun v4301 H4299 r4300 => ?_)
                    obtain rfl := r4300
                    refine g_if_ne (fun c4302 => ?_) (fun c4302 => ?_)
                    · refine g_iconst (by decide) (fun v4303 kv4303 => ?_)
                      refine g_nop ?_
                      refine g_istore_n (l' := [(0, .ref 43), (1, .int a1), (2, .int v4139), (3, .int v4303), (4, .int v4132), (5, .int v4133), (6, .int v4130)]) rfl rfl ?_
                      refine g_nop ?_
                      refine g_iload_n rfl ?_
                      refine g_if_eq (fun c4304 => ?_) (fun c4304 => ?_)
                      · refine g_iinc (l' := (fun v4305 => [(0, .ref 43), (1, .int a1), (2, .int v4139), (3, .int v4303), (4, .int v4132), (5, .int v4305), (6, .int v4130)])) rfl rfl (by decide) (by omega) (fun _ => rfl) (fun v4305 ev4305 => ?_)
                        refine g_goto ?_
                        refine gG_pick [0, 1, 2, 3, 4, 5] (l' := [(0, .ref 43), (1, .int a1), (2, .int v4139), (3, .int v4303), (4, .int v4132), (5, .int v4305)]) rfl ?_
                        exact ihL4136 v4139 v4303 v4132 v4305 H4140 hIH4140 hJH4140 e4141 (by omega) (by omega) (by omega) (by omega) (by omega)
                      · exfalso; omega
                    · refine g_iconst (by decide) (fun v4306 kv4306 => ?_)
                      refine g_goto ?_
                      refine g_istore_n (l' := [(0, .ref 43), (1, .int a1), (2, .int v4139), (3, .int v4306), (4, .int v4132), (5, .int v4133), (6, .int v4130)]) rfl rfl ?_
                      refine g_nop ?_
                      refine g_iload_n rfl ?_
                      refine g_if_eq (fun c4307 => ?_) (fun c4307 => ?_)
                      · exfalso; omega
                      · refine g_aload_n rfl ?_
                        refine g_aload_n rfl ?_
                        refine g_gfi hIH4140 sx_43 rfl (fun v4308 ev4308 lv4308 uv4308 => ?_)
                        refine g_if_ne (fun c4309 => ?_) (fun c4309 => ?_)
                        · refine g_aload_n rfl ?_
                          refine g_gfi hIH4140 sx_43 rfl (fun v4310 ev4310 lv4310 uv4310 => ?_)
                          refine g_nop ?_
                          refine g_pfi hIH4140 sx_43 rfl (gz_any _) (fun H4311 eH4311 hIH4311 => ?_)
                          have hJH4311 : JX H4311 := JX_sF eH4311 hJH4140
                          have e4312 : k1_1 = fZ H4311 1 1 := by rw [eH4311, fZ_sF_nc (by omega)]; exact e4141
                          refine g_aload_n rfl ?_
                          refine g_iload rfl ?_
                          refine g_pfi hIH4311 sx_43 rfl (gz_any _) (fun H4313 eH4313 hIH4313 => ?_)
                          have hJH4313 : JX H4313 := JX_sF eH4313 hJH4311
                          have e4314 : k1_1 = fZ H4313 1 1 := by rw [eH4313, fZ_sF_nc (by omega)]; exact e4312
                          refine g_aload_n rfl ?_
                          refine g_dup rfl ?_
                          refine g_gfi hIH4313 sx_43 rfl (fun v4315 ev4315 lv4315 uv4315 => ?_)
                          refine g_iconst (by decide) (fun v4316 kv4316 => ?_)
                          refine g_iadd' (fun v4317 _ => ?_)
                          refine g_pfi hIH4313 sx_43 rfl (gz_any _) (fun H4318 eH4318 hIH4318 => ?_)
                          have hJH4318 : JX H4318 := JX_sF eH4318 hJH4313
                          have e4319 : k1_1 = fZ H4318 1 1 := by rw [eH4318, fZ_sF_nc (by omega)]; exact e4314
                          refine g_nop ?_
                          refine g_iinc (l' := (fun v4320 => [(0, .ref 43), (1, .int a1), (2, .int v4139), (3, .int v4306), (4, .int v4132), (5, .int v4320), (6, .int v4130)])) rfl rfl (by decide) (by omega) (fun _ => rfl) (fun v4320 ev4320 => ?_)
                          refine g_goto ?_
                          refine gG_pick [0, 1, 2, 3, 4, 5] (l' := [(0, .ref 43), (1, .int a1), (2, .int v4139), (3, .int v4306), (4, .int v4132), (5, .int v4320)]) rfl ?_
                          exact ihL4136 v4139 v4306 v4132 v4320 H4318 hIH4318 hJH4318 e4319 (by omega) (by omega) (by omega) (by omega) (by omega)
                        · refine g_iload rfl ?_
                          refine g_goto ?_
                          refine g_pfi hIH4140 sx_43 rfl (gz_any _) (fun H4321 eH4321 hIH4321 => ?_)
                          have hJH4321 : JX H4321 := JX_sF eH4321 hJH4140
                          have e4322 : k1_1 = fZ H4321 1 1 := by rw [eH4321, fZ_sF_nc (by omega)]; exact e4141
                          refine g_aload_n rfl ?_
                          refine g_iload rfl ?_
                          refine g_pfi hIH4321 sx_43 rfl (gz_any _) (fun H4323 eH4323 hIH4323 => ?_)
                          have hJH4323 : JX H4323 := JX_sF eH4323 hJH4321
                          have e4324 : k1_1 = fZ H4323 1 1 := by rw [eH4323, fZ_sF_nc (by omega)]; exact e4322
                          refine g_aload_n rfl ?_
                          refine g_dup rfl ?_
                          refine g_gfi hIH4323 sx_43 rfl (fun v4325 ev4325 lv4325 uv4325 => ?_)
                          refine g_iconst (by decide) (fun v4326 kv4326 => ?_)
                          refine g_iadd' (fun v4327 _ => ?_)
                          refine g_pfi hIH4323 sx_43 rfl (gz_any _) (fun H4328 eH4328 hIH4328 => ?_)
                          have hJH4328 : JX H4328 := JX_sF eH4328 hJH4323
                          have e4329 : k1_1 = fZ H4328 1 1 := by rw [eH4328, fZ_sF_nc (by omega)]; exact e4324
                          refine g_nop ?_
                          refine g_iinc (l' := (fun v4330 => [(0, .ref 43), (1, .int a1), (2, .int v4139), (3, .int v4306), (4, .int v4132), (5, .int v4330), (6, .int v4130)])) rfl rfl (by decide) (by omega) (fun _ => rfl) (fun v4330 ev4330 => ?_)
                          refine g_goto ?_
                          refine gG_pick [0, 1, 2, 3, 4, 5] (l' := [(0, .ref 43), (1, .int a1), (2, .int v4139), (3, .int v4306), (4, .int v4132), (5, .int v4330)]) rfl ?_
                          exact ihL4136 v4139 v4306 v4132 v4330 H4328 hIH4328 hJH4328 e4329 (by omega) (by omega) (by omega) (by omega) (by omega)
              · refine g_aload_n rfl ?_
                refine g_gfr hIH4140 sx_43 rfl ?_
                refine g_gfr hIH4140 sx_24 rfl ?_
                refine g_gfr hIH4140 sx_25 rfl ?_
                refine g_iload_n rfl ?_
                refine g_iaload hIH4140 sx_27 rfl (by omega) (fun v4331 ev4331 lv4331 uv4331 => ?_)
                refine g_istore (l' := [(0, .ref 43), (1, .int a1), (2, .int v4139), (3, .int v4131), (4, .int v4132), (5, .int v4133), (6, .int v4130), (7, .int v4331)]) rfl rfl ?_
                refine g_iload rfl ?_
                refine g_iload_n rfl ?_
                refine g_if2_eq (fun c4332 => ?_) (fun c4332 => ?_)
                · refine g_iinc (l' := (fun v4333 => [(0, .ref 43), (1, .int a1), (2, .int v4333), (3, .int v4131), (4, .int v4132), (5, .int v4133), (6, .int v4130), (7, .int v4331)])) rfl rfl (by decide) (by omega) (fun _ => rfl) (fun v4333 ev4333 => ?_)
                  refine g_goto ?_
                  refine gG_pick [0, 1, 2, 3, 4, 5, 6] (l' := [(0, .ref 43), (1, .int a1), (2, .int v4333), (3, .int v4131), (4, .int v4132), (5, .int v4133), (6, .int v4130)]) rfl ?_
                  exact ihL4142 v4333 H4140 hIH4140 hJH4140 e4141 (by omega) (by omega)
                · refine g_aload_n rfl ?_
                  refine g_gfr hIH4140 sx_43 rfl ?_
                  refine g_aload_n rfl ?_
                  refine g_gfr hIH4140 sx_43 rfl ?_
                  refine g_iload rfl ?_
                  refine g_aload_n rfl ?_
                  refine g_gfr hIH4140 sx_43 rfl ?_
                  refine g_gfr hIH4140 sx_3 rfl ?_
                  refine g_iload rfl ?_
                  refine g_iaload hIH4140 sx_6 rfl (by omega) (fun v4334 ev4334 lv4334 uv4334 => ?_)
                  refine g_invvi hIH4140 sx_44 rfl rfl rfl rfl (s_93 44 zWo_44 3 zBo_3 v4331 (by omega) v4334 H4140 hIH4140 hJH4140) (fun v4337 H4335 r4336 => ?_)
                  obtain ⟨hIH4335, hJH4335, w4338⟩ := r4336
                  have e4339 : k1_1 = fZ H4335 1 1 := e4141.trans w4338.symm
                  refine g_pop rfl ?_
                  refine g_nop ?_
                  refine g_iinc (l' := (fun v4340 => [(0, .ref 43), (1, .int a1), (2, .int v4340), (3, .int v4131), (4, .int v4132), (5, .int v4133), (6, .int v4130), (7, .int v4331)])) rfl rfl (by decide) (by omega) (fun _ => rfl) (fun v4340 ev4340 => ?_)
                  refine g_goto ?_
                  refine gG_pick [0, 1, 2, 3, 4, 5, 6] (l' := [(0, .ref 43), (1, .int a1), (2, .int v4340), (3, .int v4131), (4, .int v4132), (5, .int v4133), (6, .int v4130)]) rfl ?_
                  exact ihL4142 v4340 H4335 hIH4335 hJH4335 e4339 (by omega) (by omega)
        exact L4142 _ v4130 H4134 hIH4134 hJH4134 e4135 (by omega) (Nat.lt_succ_self _)
  refine g_aload_n rfl ?_
  refine g_bipush (by decide) (fun v4341 kv4341 => ?_)
  refine g_pfi hI sx_43 rfl (gz_any _) (fun H4342 eH4342 hIH4342 => ?_)
  have hJH4342 : JX H4342 := JX_sF eH4342 hJ
  have e4343 : k1_1 = fZ H4342 1 1 := by rw [eH4342, fZ_sF_nc (by omega)]; exact ek1_1
  refine g_aload_n rfl ?_
  refine g_bipush (by decide) (fun v4344 kv4344 => ?_)
  refine g_pfi hIH4342 sx_43 rfl (gz_any _) (fun H4345 eH4345 hIH4345 => ?_)
  have hJH4345 : JX H4345 := JX_sF eH4345 hJH4342
  have e4346 : k1_1 = fZ H4345 1 1 := by rw [eH4345, fZ_sF_nc (by omega)]; exact e4343
  refine g_aload_n rfl ?_
  refine g_iconst (by decide) (fun v4347 kv4347 => ?_)
  refine g_pfi hIH4345 sx_43 rfl (gz_any _) (fun H4348 eH4348 hIH4348 => ?_)
  have hJH4348 : JX H4348 := JX_sF eH4348 hJH4345
  have e4349 : k1_1 = fZ H4348 1 1 := by rw [eH4348, fZ_sF_nc (by omega)]; exact e4346
  refine g_aload_n rfl ?_
  refine g_gfr hIH4348 sx_43 rfl ?_
  refine g_invvv hIH4348 sx_44 rfl rfl rfl rfl (s_83 44 zWo_44 H4348 hIH4348 hJH4348) (fun H4350 r4351 => ?_)
  obtain ⟨hIH4350, hJH4350, w4352⟩ := r4351
  have e4353 : k1_1 = fZ H4350 1 1 := e4349.trans w4352.symm
  refine g_iconst (by decide) (fun v4354 kv4354 => ?_)
  refine g_istore_n (l' := [(0, .ref 43), (1, .int a1), (2, .int v4354)]) rfl rfl ?_
  refine g_aload_n rfl ?_
  refine g_gfr hIH4350 sx_43 rfl ?_
  refine g_aload_n rfl ?_
  refine g_gfr hIH4350 sx_43 rfl ?_
  refine g_iload_n rfl ?_
  refine g_iconst (by decide) (fun v4355 kv4355 => ?_)
  refine g_invvi hIH4350 sx_44 rfl rfl rfl rfl (s_94 44 zWo_44 3 zBo_3 a1 (by omega) v4355 H4350 hIH4350 hJH4350) (fun v4358 H4356 r4357 => ?_)
  obtain rfl := r4357
  refine g_if_ne (fun c4359 => ?_) (fun c4359 => ?_)
  · refine g_iconst (by decide) (fun v4360 kv4360 => ?_)
    refine g_nop ?_
    refine g_istore_n (l' := [(0, .ref 43), (1, .int a1), (2, .int v4354), (3, .int v4360)]) rfl rfl ?_
    refine g_aload_n rfl ?_
    refine g_gfr hIH4350 sx_43 rfl ?_
    refine g_gfr hIH4350 sx_3 rfl ?_
    refine g_iload_n rfl ?_
    refine g_iaload hIH4350 sx_7 rfl (by omega) (fun v4361 ev4361 lv4361 uv4361 => ?_)
    refine g_iconst (by decide) (fun v4362 kv4362 => ?_)
    refine g_if2_eq (fun c4363 => ?_) (fun c4363 => ?_)
    · refine g_iconst (by decide) (fun v4364 kv4364 => ?_)
      refine g_goto ?_
      refine g_istore (l' := [(0, .ref 43), (1, .int a1), (2, .int v4354), (3, .int v4360), (4, .int v4364)]) rfl rfl ?_
      refine g_iconst (by decide) (fun v4365 kv4365 => ?_)
      refine g_istore (l' := [(0, .ref 43), (1, .int a1), (2, .int v4354), (3, .int v4360), (4, .int v4364), (5, .int v4365)]) rfl rfl ?_
      refine g_nop ?_
      exact L4136 _ v4354 v4360 v4364 v4365 H4350 hIH4350 hJH4350 e4353 (by omega) (by omega) (by omega) (by omega) (Nat.lt_succ_self _)
    · refine g_aload_n rfl ?_
      refine g_gfr hIH4350 sx_43 rfl ?_
      refine g_gfr hIH4350 sx_3 rfl ?_
      refine g_iload_n rfl ?_
      refine g_ialoadk hIH4350 sx_7 rfl (by omega) ev4361 ?_
      refine g_bipush (by decide) (fun v4366 kv4366 => ?_)
      refine g_if2_ne (fun c4367 => ?_) (fun c4367 => ?_)
      · refine g_iconst (by decide) (fun v4368 kv4368 => ?_)
        refine g_nop ?_
        refine g_istore (l' := [(0, .ref 43), (1, .int a1), (2, .int v4354), (3, .int v4360), (4, .int v4368)]) rfl rfl ?_
        refine g_iconst (by decide) (fun v4369 kv4369 => ?_)
        refine g_istore (l' := [(0, .ref 43), (1, .int a1), (2, .int v4354), (3, .int v4360), (4, .int v4368), (5, .int v4369)]) rfl rfl ?_
        refine g_nop ?_
        exact L4136 _ v4354 v4360 v4368 v4369 H4350 hIH4350 hJH4350 e4353 (by omega) (by omega) (by omega) (by omega) (Nat.lt_succ_self _)
      · refine g_nop ?_
        refine g_iconst (by decide) (fun v4370 kv4370 => ?_)
        refine g_goto ?_
        refine g_istore (l' := [(0, .ref 43), (1, .int a1), (2, .int v4354), (3, .int v4360), (4, .int v4370)]) rfl rfl ?_
        refine g_iconst (by decide) (fun v4371 kv4371 => ?_)
        refine g_istore (l' := [(0, .ref 43), (1, .int a1), (2, .int v4354), (3, .int v4360), (4, .int v4370), (5, .int v4371)]) rfl rfl ?_
        refine g_nop ?_
        exact L4136 _ v4354 v4360 v4370 v4371 H4350 hIH4350 hJH4350 e4353 (by omega) (by omega) (by omega) (by omega) (Nat.lt_succ_self _)
  · refine g_iconst (by decide) (fun v4372 kv4372 => ?_)
    refine g_goto ?_
    refine g_istore_n (l' := [(0, .ref 43), (1, .int a1), (2, .int v4354), (3, .int v4372)]) rfl rfl ?_
    refine g_aload_n rfl ?_
    refine g_gfr hIH4350 sx_43 rfl ?_
    refine g_gfr hIH4350 sx_3 rfl ?_
    refine g_iload_n rfl ?_
    refine g_iaload hIH4350 sx_7 rfl (by omega) (fun v4373 ev4373 lv4373 uv4373 => ?_)
    refine g_iconst (by decide) (fun v4374 kv4374 => ?_)
    refine g_if2_eq (fun c4375 => ?_) (fun c4375 => ?_)
    · refine g_iconst (by decide) (fun v4376 kv4376 => ?_)
      refine g_goto ?_
      refine g_istore (l' := [(0, .ref 43), (1, .int a1), (2, .int v4354), (3, .int v4372), (4, .int v4376)]) rfl rfl ?_
      refine g_iconst (by decide) (fun v4377 kv4377 => ?_)
      refine g_istore (l' := [(0, .ref 43), (1, .int a1), (2, .int v4354), (3, .int v4372), (4, .int v4376), (5, .int v4377)]) rfl rfl ?_
      refine g_nop ?_
      exact L4136 _ v4354 v4372 v4376 v4377 H4350 hIH4350 hJH4350 e4353 (by omega) (by omega) (by omega) (by omega) (Nat.lt_succ_self _)
    · refine g_aload_n rfl ?_
      refine g_gfr hIH4350 sx_43 rfl ?_
      refine g_gfr hIH4350 sx_3 rfl ?_
      refine g_iload_n rfl ?_
      refine g_ialoadk hIH4350 sx_7 rfl (by omega) ev4373 ?_
      refine g_bipush (by decide) (fun v4378 kv4378 => ?_)
      refine g_if2_ne (fun c4379 => ?_) (fun c4379 => ?_)
      · refine g_iconst (by decide) (fun v4380 kv4380 => ?_)
        refine g_nop ?_
        refine g_istore (l' := [(0, .ref 43), (1, .int a1), (2, .int v4354), (3, .int v4372), (4, .int v4380)]) rfl rfl ?_
        refine g_iconst (by decide) (fun v4381 kv4381 => ?_)
        refine g_istore (l' := [(0, .ref 43), (1, .int a1), (2, .int v4354), (3, .int v4372), (4, .int v4380), (5, .int v4381)]) rfl rfl ?_
        refine g_nop ?_
        exact L4136 _ v4354 v4372 v4380 v4381 H4350 hIH4350 hJH4350 e4353 (by omega) (by omega) (by omega) (by omega) (Nat.lt_succ_self _)
      · refine g_nop ?_
        refine g_iconst (by decide) (fun v4382 kv4382 => ?_)
        refine g_goto ?_
        refine g_istore (l' := [(0, .ref 43), (1, .int a1), (2, .int v4354), (3, .int v4372), (4, .int v4382)]) rfl rfl ?_
        refine g_iconst (by decide) (fun v4383 kv4383 => ?_)
        refine g_istore (l' := [(0, .ref 43), (1, .int a1), (2, .int v4354), (3, .int v4372), (4, .int v4382), (5, .int v4383)]) rfl rfl ?_
        refine g_nop ?_
        exact L4136 _ v4354 v4372 v4382 v4383 H4350 hIH4350 hJH4350 e4353 (by omega) (by omega) (by omega) (by omega) (Nat.lt_succ_self _)
set_option maxRecDepth 4000 in
set_option maxHeartbeats 4000000 in
/-- X7.skipBlanks -/
theorem s_75 (H : mzH) (hI : gI SX H) (hJ : JX H) : gCall 75 [.ref 20] H (gRv (fun H' => gI SX H' ∧ JX H' ∧ fZ H' 1 1 = fZ H 1 1)) := by
  obtain ⟨k1_1, ek1_1⟩ : ∃ z, z = fZ H 1 1 := ⟨_, rfl⟩
  have ik1_1 : k1_1.toInt = (fZ H 1 1).toInt := by rw [← ek1_1]
  have bk1_1 : 0 ≤ k1_1.toInt ∧ k1_1.toInt ≤ 900 := by rw [ek1_1]; exact fZ_of hI sx_1 rfl
  refine gG_call [(0, .ref 20)] ⟨rfl, trivial⟩ ?_
  show gG 1 zB_75 (mzBlk zB_75 0) [(0, .ref 20)] [] H 0 0 _
  refine g_aload_n rfl ?_
  refine g_gfi hI sx_20 rfl (fun v153 ev153 lv153 uv153 => ?_)
  have iev153 : v153.toInt = (fZ H 20 6).toInt := by rw [← ev153]
  refine g_aload_n rfl ?_
  refine g_gfi hI sx_20 rfl (fun v154 ev154 lv154 uv154 => ?_)
  have iev154 : v154.toInt = (fZ H 20 5).toInt := by rw [← ev154]
  refine g_if2_ge (fun c155 => ?_) (fun c155 => ?_)
  · exact g_ret ⟨rfl, hI, hJ, (ek1_1.symm.trans ek1_1)⟩
  · refine g_aload_n rfl ?_
    refine g_gfr hI sx_20 rfl ?_
    refine g_gfr hI sx_1 rfl ?_
    refine g_aload_n rfl ?_
    refine g_gfk hI sx_20 rfl ev153 ?_
    refine g_baload hI sx_2 rfl (by omega) (fun v156 ev156 lv156 uv156 => ?_)
    refine g_bipush (by decide) (fun v157 kv157 => ?_)
    refine g_if2_eq (fun c158 => ?_) (fun c158 => ?_)
    · refine g_aload_n rfl ?_
      refine g_dup rfl ?_
      refine g_gfk hI sx_20 rfl ev153 ?_
      refine g_iconst (by decide) (fun v159 kv159 => ?_)
      refine g_iadd (by omega) (fun v160 ev160 => ?_)
      refine g_pfi hI sx_20 rfl (by omega) (fun H161 eH161 hIH161 => ?_)
      have hJH161 : JX H161 := JX_sF eH161 hJ
      have e162 : k1_1 = fZ H161 1 1 := by rw [eH161, fZ_sF_nc (by omega)]; exact ek1_1
      have e163 : v154 = fZ H161 20 5 := by rw [eH161, fZ_sF_ne (by decide)]; exact ev154
      have e164 : v160 = fZ H161 20 6 := by rw [eH161, fZ_sF_eq hI sx_20 rfl]
      have ie163 : v154.toInt = (fZ H161 20 5).toInt := by rw [← e163]
      have ie164 : v160.toInt = (fZ H161 20 6).toInt := by rw [← e164]
      refine g_goto ?_
      have L168 : ∀ (N : Nat) (H165 : mzH), gI SX H165 → JX H165 → k1_1 = fZ H165 1 1 → v154 = fZ H165 20 5 → (900 - (fZ H165 20 6).toInt).toNat < N → gG 1 zB_75 (mzBlk zB_75 0) [(0, .ref 20)] [] H165 0 0 (gRv (fun H' => gI SX H' ∧ JX H' ∧ fZ H' 1 1 = fZ H 1 1)) := by
        intro N
        induction N with
        | zero => intro H165 hIH165 hJH165 e166 e167 hmL168; exact absurd hmL168 (Nat.not_lt_zero _)
        | succ N ihL168 =>
          intro H165 hIH165 hJH165 e166 e167 hmL168
          refine g_aload_n rfl ?_
          refine g_gfi hIH165 sx_20 rfl (fun v169 ev169 lv169 uv169 => ?_)
          have iev169 : v169.toInt = (fZ H165 20 6).toInt := by rw [← ev169]
          refine g_aload_n rfl ?_
          refine g_gfk hIH165 sx_20 rfl e167 ?_
          refine g_if2_ge (fun c170 => ?_) (fun c170 => ?_)
          · exact g_ret ⟨rfl, hIH165, hJH165, (e166.symm.trans ek1_1)⟩
          · refine g_aload_n rfl ?_
            refine g_gfr hIH165 sx_20 rfl ?_
            refine g_gfr hIH165 sx_1 rfl ?_
            refine g_aload_n rfl ?_
            refine g_gfk hIH165 sx_20 rfl ev169 ?_
            refine g_baload hIH165 sx_2 rfl (by omega) (fun v171 ev171 lv171 uv171 => ?_)
            refine g_bipush (by decide) (fun v172 kv172 => ?_)
            refine g_if2_eq (fun c173 => ?_) (fun c173 => ?_)
            · refine g_aload_n rfl ?_
              refine g_dup rfl ?_
              refine g_gfk hIH165 sx_20 rfl ev169 ?_
              refine g_iconst (by decide) (fun v174 kv174 => ?_)
              refine g_iadd (by omega) (fun v175 ev175 => ?_)
              refine g_pfi hIH165 sx_20 rfl (by omega) (fun H176 eH176 hIH176 => ?_)
              have hJH176 : JX H176 := JX_sF eH176 hJH165
              have e177 : k1_1 = fZ H176 1 1 := by rw [eH176, fZ_sF_nc (by omega)]; exact e166
              have e178 : v154 = fZ H176 20 5 := by rw [eH176, fZ_sF_ne (by decide)]; exact e167
              have e179 : v175 = fZ H176 20 6 := by rw [eH176, fZ_sF_eq hIH165 sx_20 rfl]
              have ie178 : v154.toInt = (fZ H176 20 5).toInt := by rw [← e178]
              have ie179 : v175.toInt = (fZ H176 20 6).toInt := by rw [← e179]
              refine g_goto ?_
              exact ihL168 H176 hIH176 hJH176 e177 e178 (by omega)
            · refine g_aload_n rfl ?_
              refine g_gfr hIH165 sx_20 rfl ?_
              refine g_gfr hIH165 sx_1 rfl ?_
              refine g_aload_n rfl ?_
              refine g_gfk hIH165 sx_20 rfl ev169 ?_
              refine g_baloadk hIH165 sx_2 rfl (by omega) ev171 ?_
              refine g_bipush (by decide) (fun v180 kv180 => ?_)
              refine g_if2_ne (fun c181 => ?_) (fun c181 => ?_)
              · exact g_ret ⟨rfl, hIH165, hJH165, (e166.symm.trans ek1_1)⟩
              · refine g_nop ?_
                refine g_aload_n rfl ?_
                refine g_dup rfl ?_
                refine g_gfk hIH165 sx_20 rfl ev169 ?_
                refine g_iconst (by decide) (fun v182 kv182 => ?_)
                refine g_iadd (by omega) (fun v183 ev183 => ?_)
                refine g_pfi hIH165 sx_20 rfl (by omega) (fun H184 eH184 hIH184 => ?_)
                have hJH184 : JX H184 := JX_sF eH184 hJH165
                have e185 : k1_1 = fZ H184 1 1 := by rw [eH184, fZ_sF_nc (by omega)]; exact e166
                have e186 : v154 = fZ H184 20 5 := by rw [eH184, fZ_sF_ne (by decide)]; exact e167
                have e187 : v183 = fZ H184 20 6 := by rw [eH184, fZ_sF_eq hIH165 sx_20 rfl]
                have ie186 : v154.toInt = (fZ H184 20 5).toInt := by rw [← e186]
                have ie187 : v183.toInt = (fZ H184 20 6).toInt := by rw [← e187]
                refine g_goto ?_
                exact ihL168 H184 hIH184 hJH184 e185 e186 (by omega)
      exact L168 _ H161 hIH161 hJH161 e162 e163 (Nat.lt_succ_self _)
    · refine g_aload_n rfl ?_
      refine g_gfr hI sx_20 rfl ?_
      refine g_gfr hI sx_1 rfl ?_
      refine g_aload_n rfl ?_
      refine g_gfk hI sx_20 rfl ev153 ?_
      refine g_baloadk hI sx_2 rfl (by omega) ev156 ?_
      refine g_bipush (by decide) (fun v188 kv188 => ?_)
      refine g_if2_ne (fun c189 => ?_) (fun c189 => ?_)
      · exact g_ret ⟨rfl, hI, hJ, (ek1_1.symm.trans ek1_1)⟩
      · refine g_nop ?_
        refine g_aload_n rfl ?_
        refine g_dup rfl ?_
        refine g_gfk hI sx_20 rfl ev153 ?_
        refine g_iconst (by decide) (fun v190 kv190 => ?_)
        refine g_iadd (by omega) (fun v191 ev191 => ?_)
        refine g_pfi hI sx_20 rfl (by omega) (fun H192 eH192 hIH192 => ?_)
        have hJH192 : JX H192 := JX_sF eH192 hJ
        have e193 : k1_1 = fZ H192 1 1 := by rw [eH192, fZ_sF_nc (by omega)]; exact ek1_1
        have e194 : v154 = fZ H192 20 5 := by rw [eH192, fZ_sF_ne (by decide)]; exact ev154
        have e195 : v191 = fZ H192 20 6 := by rw [eH192, fZ_sF_eq hI sx_20 rfl]
        have ie194 : v154.toInt = (fZ H192 20 5).toInt := by rw [← e194]
        have ie195 : v191.toInt = (fZ H192 20 6).toInt := by rw [← e195]
        refine g_goto ?_
        have L199 : ∀ (N : Nat) (H196 : mzH), gI SX H196 → JX H196 → k1_1 = fZ H196 1 1 → v154 = fZ H196 20 5 → (900 - (fZ H196 20 6).toInt).toNat < N → gG 1 zB_75 (mzBlk zB_75 0) [(0, .ref 20)] [] H196 0 0 (gRv (fun H' => gI SX H' ∧ JX H' ∧ fZ H' 1 1 = fZ H 1 1)) := by
          intro N
          induction N with
          | zero => intro H196 hIH196 hJH196 e197 e198 hmL199; exact absurd hmL199 (Nat.not_lt_zero _)
          | succ N ihL199 =>
            intro H196 hIH196 hJH196 e197 e198 hmL199
            refine g_aload_n rfl ?_
            refine g_gfi hIH196 sx_20 rfl (fun v200 ev200 lv200 uv200 => ?_)
            have iev200 : v200.toInt = (fZ H196 20 6).toInt := by rw [← ev200]
            refine g_aload_n rfl ?_
            refine g_gfk hIH196 sx_20 rfl e198 ?_
            refine g_if2_ge (fun c201 => ?_) (fun c201 => ?_)
            · exact g_ret ⟨rfl, hIH196, hJH196, (e197.symm.trans ek1_1)⟩
            · refine g_aload_n rfl ?_
              refine g_gfr hIH196 sx_20 rfl ?_
              refine g_gfr hIH196 sx_1 rfl ?_
              refine g_aload_n rfl ?_
              refine g_gfk hIH196 sx_20 rfl ev200 ?_
              refine g_baload hIH196 sx_2 rfl (by omega) (fun v202 ev202 lv202 uv202 => ?_)
              refine g_bipush (by decide) (fun v203 kv203 => ?_)
              refine g_if2_eq (fun c204 => ?_) (fun c204 => ?_)
              · refine g_aload_n rfl ?_
                refine g_dup rfl ?_
                refine g_gfk hIH196 sx_20 rfl ev200 ?_
                refine g_iconst (by decide) (fun v205 kv205 => ?_)
                refine g_iadd (by omega) (fun v206 ev206 => ?_)
                refine g_pfi hIH196 sx_20 rfl (by omega) (fun H207 eH207 hIH207 => ?_)
                have hJH207 : JX H207 := JX_sF eH207 hJH196
                have e208 : k1_1 = fZ H207 1 1 := by rw [eH207, fZ_sF_nc (by omega)]; exact e197
                have e209 : v154 = fZ H207 20 5 := by rw [eH207, fZ_sF_ne (by decide)]; exact e198
                have e210 : v206 = fZ H207 20 6 := by rw [eH207, fZ_sF_eq hIH196 sx_20 rfl]
                have ie209 : v154.toInt = (fZ H207 20 5).toInt := by rw [← e209]
                have ie210 : v206.toInt = (fZ H207 20 6).toInt := by rw [← e210]
                refine g_goto ?_
                exact ihL199 H207 hIH207 hJH207 e208 e209 (by omega)
              · refine g_aload_n rfl ?_
                refine g_gfr hIH196 sx_20 rfl ?_
                refine g_gfr hIH196 sx_1 rfl ?_
                refine g_aload_n rfl ?_
                refine g_gfk hIH196 sx_20 rfl ev200 ?_
                refine g_baloadk hIH196 sx_2 rfl (by omega) ev202 ?_
                refine g_bipush (by decide) (fun v211 kv211 => ?_)
                refine g_if2_ne (fun c212 => ?_) (fun c212 => ?_)
                · exact g_ret ⟨rfl, hIH196, hJH196, (e197.symm.trans ek1_1)⟩
                · refine g_nop ?_
                  refine g_aload_n rfl ?_
                  refine g_dup rfl ?_
                  refine g_gfk hIH196 sx_20 rfl ev200 ?_
                  refine g_iconst (by decide) (fun v213 kv213 => ?_)
                  refine g_iadd (by omega) (fun v214 ev214 => ?_)
                  refine g_pfi hIH196 sx_20 rfl (by omega) (fun H215 eH215 hIH215 => ?_)
                  have hJH215 : JX H215 := JX_sF eH215 hJH196
                  have e216 : k1_1 = fZ H215 1 1 := by rw [eH215, fZ_sF_nc (by omega)]; exact e197
                  have e217 : v154 = fZ H215 20 5 := by rw [eH215, fZ_sF_ne (by decide)]; exact e198
                  have e218 : v214 = fZ H215 20 6 := by rw [eH215, fZ_sF_eq hIH196 sx_20 rfl]
                  have ie217 : v154.toInt = (fZ H215 20 5).toInt := by rw [← e217]
                  have ie218 : v214.toInt = (fZ H215 20 6).toInt := by rw [← e218]
                  refine g_goto ?_
                  exact ihL199 H215 hIH215 hJH215 e216 e217 (by omega)
        exact L199 _ H192 hIH192 hJH192 e193 e194 (Nat.lt_succ_self _)
set_option maxRecDepth 4000 in
set_option maxHeartbeats 4000000 in
/-- X7.isLetter -/
theorem s_79 (H : mzH) (hI : gI SX H) (hJ : JX H) (hp0 : (fZ H 20 6).toInt ≤ 899) : gCall 79 [.ref 20] H (gRi (fun v H' => H = H' ∧ (0 ≤ v.toInt ∧ v.toInt ≤ 1))) := by
  refine gG_call [(0, .ref 20)] ⟨rfl, trivial⟩ ?_
  show gG 1 zB_79 (mzBlk zB_79 0) [(0, .ref 20)] [] H 0 0 _
  refine g_aload_n rfl ?_
  refine g_gfr hI sx_20 rfl ?_
  refine g_gfr hI sx_1 rfl ?_
  refine g_aload_n rfl ?_
  refine g_gfi hI sx_20 rfl (fun v37 ev37 lv37 uv37 => ?_)
  have iev37 : v37.toInt = (fZ H 20 6).toInt := by rw [← ev37]
  refine g_baload hI sx_2 rfl (by omega) (fun v38 ev38 lv38 uv38 => ?_)
  refine g_bipush (by decide) (fun v39 kv39 => ?_)
  refine g_if2_lt (fun c40 => ?_) (fun c40 => ?_)
  · refine g_iconst (by decide) (fun v41 kv41 => ?_)
    refine g_nop ?_
    exact g_zret (by omega) ⟨_, rfl, rfl, (by omega)⟩
  · refine g_aload_n rfl ?_
    refine g_gfr hI sx_20 rfl ?_
    refine g_gfr hI sx_1 rfl ?_
    refine g_aload_n rfl ?_
    refine g_gfk hI sx_20 rfl ev37 ?_
    refine g_baloadk hI sx_2 rfl (by omega) ev38 ?_
    refine g_bipush (by decide) (fun v42 kv42 => ?_)
    refine g_if2_gt (fun c43 => ?_) (fun c43 => ?_)
    · refine g_iconst (by decide) (fun v44 kv44 => ?_)
      refine g_nop ?_
      exact g_zret (by omega) ⟨_, rfl, rfl, (by omega)⟩
    · refine g_iconst (by decide) (fun v45 kv45 => ?_)
      refine g_goto ?_
      exact g_zret (by omega) ⟨_, rfl, rfl, (by omega)⟩
theorem s_81 (H : mzH) (hI : gI SX H) (hJ : JX H) : gCall 81 [.ref 20] H (gRi (fun v H' => H = H')) := sorry
set_option maxRecDepth 4000 in
set_option maxHeartbeats 4000000 in
/-- X7.passWord -/
theorem s_77 (H : mzH) (hI : gI SX H) (hJ : JX H) : gCall 77 [.ref 20] H (gRi (fun v H' => gI SX H' ∧ JX H' ∧ fZ H' 1 1 = fZ H 1 1)) := by
  obtain ⟨k1_1, ek1_1⟩ : ∃ z, z = fZ H 1 1 := ⟨_, rfl⟩
  have ik1_1 : k1_1.toInt = (fZ H 1 1).toInt := by rw [← ek1_1]
  have bk1_1 : 0 ≤ k1_1.toInt ∧ k1_1.toInt ≤ 900 := by rw [ek1_1]; exact fZ_of hI sx_1 rfl
  refine gG_call [(0, .ref 20)] ⟨rfl, trivial⟩ ?_
  show gG 2 zB_77 (mzBlk zB_77 0) [(0, .ref 20)] [] H 0 0 _
  refine g_aload_n rfl ?_
  refine g_gfi hI sx_20 rfl (fun v161 ev161 lv161 uv161 => ?_)
  have iev161 : v161.toInt = (fZ H 20 6).toInt := by rw [← ev161]
  refine g_istore_n (l' := [(0, .ref 20), (1, .int v161)]) rfl rfl ?_
  refine g_nop ?_
  have L164 : ∀ (N : Nat) (H162 : mzH), gI SX H162 → JX H162 → k1_1 = fZ H162 1 1 → (900 - (fZ H162 20 6).toInt).toNat < N → gG 2 zB_77 (mzBlk zB_77 1) [(0, .ref 20), (1, .int v161)] [] H162 0 0 (gRi (fun v H' => gI SX H' ∧ JX H' ∧ fZ H' 1 1 = fZ H 1 1)) := by
    intro N
    induction N with
    | zero => intro H162 hIH162 hJH162 e163 hmL164; exact absurd hmL164 (Nat.not_lt_zero _)
    | succ N ihL164 =>
      intro H162 hIH162 hJH162 e163 hmL164
      refine g_aload_n rfl ?_
      refine g_gfi hIH162 sx_20 rfl (fun v165 ev165 lv165 uv165 => ?_)
      have iev165 : v165.toInt = (fZ H162 20 6).toInt := by rw [← ev165]
      refine g_aload_n rfl ?_
      refine g_gfi hIH162 sx_20 rfl (fun v166 ev166 lv166 uv166 => ?_)
      have iev166 : v166.toInt = (fZ H162 20 5).toInt := by rw [← ev166]
      refine g_if2_ge (fun c167 => ?_) (fun c167 => ?_)
      · refine g_aload_n rfl ?_
        refine g_gfk hIH162 sx_20 rfl ev165 ?_
        refine g_iload_n rfl ?_
        refine g_isub (by omega) (fun v168 ev168 => ?_)
        refine g_bipush (by decide) (fun v169 kv169 => ?_)
        refine g_if2_le (fun c170 => ?_) (fun c170 => ?_)
        · refine g_aload_n rfl ?_
          refine g_invvi hIH162 sx_20 rfl rfl rfl rfl (s_81 H162 hIH162 hJH162) (fun v173 H171 r172 => ?_)
          obtain rfl := r172
          refine g_nop ?_
          exact g_iret ⟨_, rfl, hIH162, hJH162, (e163.symm.trans ek1_1)⟩
        · refine g_bipush (by decide) (fun v174 kv174 => ?_)
          refine g_goto ?_
          exact g_iret ⟨_, rfl, hIH162, hJH162, (e163.symm.trans ek1_1)⟩
      · refine g_aload_n rfl ?_
        refine g_invvi hIH162 sx_20 rfl rfl rfl rfl (s_79 H162 hIH162 hJH162 (by omega)) (fun v177 H175 r176 => ?_)
        obtain ⟨rfl, bv177⟩ := r176
        refine g_if_eq (fun c178 => ?_) (fun c178 => ?_)
        · refine g_aload_n rfl ?_
          refine g_gfk hIH162 sx_20 rfl ev165 ?_
          refine g_iload_n rfl ?_
          refine g_isub (by omega) (fun v179 ev179 => ?_)
          refine g_bipush (by decide) (fun v180 kv180 => ?_)
          refine g_if2_le (fun c181 => ?_) (fun c181 => ?_)
          · refine g_aload_n rfl ?_
            refine g_invvi hIH162 sx_20 rfl rfl rfl rfl (s_81 H162 hIH162 hJH162) (fun v184 H182 r183 => ?_)
            obtain rfl := r183
            refine g_nop ?_
            exact g_iret ⟨_, rfl, hIH162, hJH162, (e163.symm.trans ek1_1)⟩
          · refine g_bipush (by decide) (fun v185 kv185 => ?_)
            refine g_goto ?_
            exact g_iret ⟨_, rfl, hIH162, hJH162, (e163.symm.trans ek1_1)⟩
        · refine g_aload_n rfl ?_
          refine g_aload_n rfl ?_
          refine g_gfi hIH162 sx_20 rfl (fun v186 ev186 lv186 uv186 => ?_)
          refine g_iconst (by decide) (fun v187 kv187 => ?_)
          refine g_ishl' (fun v188 _ => ?_)
          refine g_aload_n rfl ?_
          refine g_gfr hIH162 sx_20 rfl ?_
          refine g_gfr hIH162 sx_1 rfl ?_
          refine g_aload_n rfl ?_
          refine g_gfk hIH162 sx_20 rfl ev165 ?_
          refine g_baload hIH162 sx_2 rfl (by omega) (fun v189 ev189 lv189 uv189 => ?_)
          refine g_iadd' (fun v190 _ => ?_)
          refine g_bipush (by decide) (fun v191 kv191 => ?_)
          refine g_isub' (fun v192 _ => ?_)
          refine g_iconst (by decide) (fun v193 kv193 => ?_)
          refine g_iadd' (fun v194 _ => ?_)
          refine g_pfi hIH162 sx_20 rfl (gz_any _) (fun H195 eH195 hIH195 => ?_)
          have hJH195 : JX H195 := JX_sF eH195 hJH162
          have e196 : k1_1 = fZ H195 1 1 := by rw [eH195, fZ_sF_nc (by omega)]; exact e163
          have e197 : v165 = fZ H195 20 6 := by rw [eH195, fZ_sF_ne (by decide)]; exact ev165
          have e198 : v166 = fZ H195 20 5 := by rw [eH195, fZ_sF_ne (by decide)]; exact ev166
          have ie197 : v165.toInt = (fZ H195 20 6).toInt := by rw [← e197]
          have ie198 : v166.toInt = (fZ H195 20 5).toInt := by rw [← e198]
          refine g_aload_n rfl ?_
          refine g_dup rfl ?_
          refine g_gfk hIH195 sx_20 rfl e197 ?_
          refine g_iconst (by decide) (fun v199 kv199 => ?_)
          refine g_iadd (by omega) (fun v200 ev200 => ?_)
          refine g_pfi hIH195 sx_20 rfl (by omega) (fun H201 eH201 hIH201 => ?_)
          have hJH201 : JX H201 := JX_sF eH201 hJH195
          have e202 : k1_1 = fZ H201 1 1 := by rw [eH201, fZ_sF_nc (by omega)]; exact e196
          have e203 : v166 = fZ H201 20 5 := by rw [eH201, fZ_sF_ne (by decide)]; exact e198
          have e204 : v200 = fZ H201 20 6 := by rw [eH201, fZ_sF_eq hIH195 sx_20 rfl]
          have ie203 : v166.toInt = (fZ H201 20 5).toInt := by rw [← e203]
          have ie204 : v200.toInt = (fZ H201 20 6).toInt := by rw [← e204]
          refine g_goto ?_
          exact ihL164 H201 hIH201 hJH201 e202 (by omega)
  exact L164 _ H hI hJ ek1_1 (Nat.lt_succ_self _)
set_option maxRecDepth 4000 in
set_option maxHeartbeats 4000000 in
/-- X7.isDigit -/
theorem s_80 (H : mzH) (hI : gI SX H) (hJ : JX H) (hp0 : (fZ H 20 6).toInt ≤ 899) : gCall 80 [.ref 20] H (gRi (fun v H' => H = H' ∧ (0 ≤ v.toInt ∧ v.toInt ≤ 1))) := by
  refine gG_call [(0, .ref 20)] ⟨rfl, trivial⟩ ?_
  show gG 1 zB_80 (mzBlk zB_80 0) [(0, .ref 20)] [] H 0 0 _
  refine g_aload_n rfl ?_
  refine g_gfr hI sx_20 rfl ?_
  refine g_gfr hI sx_1 rfl ?_
  refine g_aload_n rfl ?_
  refine g_gfi hI sx_20 rfl (fun v37 ev37 lv37 uv37 => ?_)
  have iev37 : v37.toInt = (fZ H 20 6).toInt := by rw [← ev37]
  refine g_baload hI sx_2 rfl (by omega) (fun v38 ev38 lv38 uv38 => ?_)
  refine g_bipush (by decide) (fun v39 kv39 => ?_)
  refine g_if2_lt (fun c40 => ?_) (fun c40 => ?_)
  · refine g_iconst (by decide) (fun v41 kv41 => ?_)
    refine g_nop ?_
    exact g_zret (by omega) ⟨_, rfl, rfl, (by omega)⟩
  · refine g_aload_n rfl ?_
    refine g_gfr hI sx_20 rfl ?_
    refine g_gfr hI sx_1 rfl ?_
    refine g_aload_n rfl ?_
    refine g_gfk hI sx_20 rfl ev37 ?_
    refine g_baloadk hI sx_2 rfl (by omega) ev38 ?_
    refine g_bipush (by decide) (fun v42 kv42 => ?_)
    refine g_if2_gt (fun c43 => ?_) (fun c43 => ?_)
    · refine g_iconst (by decide) (fun v44 kv44 => ?_)
      refine g_nop ?_
      exact g_zret (by omega) ⟨_, rfl, rfl, (by omega)⟩
    · refine g_iconst (by decide) (fun v45 kv45 => ?_)
      refine g_goto ?_
      exact g_zret (by omega) ⟨_, rfl, rfl, (by omega)⟩
set_option maxRecDepth 4000 in
set_option maxHeartbeats 4000000 in
/-- X7.passDigits -/
theorem s_78 (H : mzH) (hI : gI SX H) (hJ : JX H) : gCall 78 [.ref 20] H (gRv (fun H' => gI SX H' ∧ JX H' ∧ fZ H' 1 1 = fZ H 1 1)) := by
  obtain ⟨k1_1, ek1_1⟩ : ∃ z, z = fZ H 1 1 := ⟨_, rfl⟩
  have ik1_1 : k1_1.toInt = (fZ H 1 1).toInt := by rw [← ek1_1]
  have bk1_1 : 0 ≤ k1_1.toInt ∧ k1_1.toInt ≤ 900 := by rw [ek1_1]; exact fZ_of hI sx_1 rfl
  refine gG_call [(0, .ref 20)] ⟨rfl, trivial⟩ ?_
  show gG 1 zB_78 (mzBlk zB_78 0) [(0, .ref 20)] [] H 0 0 _
  refine g_aload_n rfl ?_
  refine g_gfi hI sx_20 rfl (fun v201 ev201 lv201 uv201 => ?_)
  have iev201 : v201.toInt = (fZ H 20 6).toInt := by rw [← ev201]
  refine g_aload_n rfl ?_
  refine g_gfi hI sx_20 rfl (fun v202 ev202 lv202 uv202 => ?_)
  have iev202 : v202.toInt = (fZ H 20 5).toInt := by rw [← ev202]
  refine g_if2_ge (fun c203 => ?_) (fun c203 => ?_)
  · exact g_ret ⟨rfl, hI, hJ, (ek1_1.symm.trans ek1_1)⟩
  · refine g_aload_n rfl ?_
    refine g_invvi hI sx_20 rfl rfl rfl rfl (s_80 H hI hJ (by omega)) (fun v206 H204 r205 => ?_)
    obtain ⟨rfl, bv206⟩ := r205
    refine g_if_eq (fun c207 => ?_) (fun c207 => ?_)
    · exact g_ret ⟨rfl, hI, hJ, (ek1_1.symm.trans ek1_1)⟩
    · refine g_aload_n rfl ?_
      refine g_aload_n rfl ?_
      refine g_gfi hI sx_20 rfl (fun v208 ev208 lv208 uv208 => ?_)
      refine g_bipush (by decide) (fun v209 kv209 => ?_)
      refine g_imul' (fun v210 _ => ?_)
      refine g_aload_n rfl ?_
      refine g_gfr hI sx_20 rfl ?_
      refine g_gfr hI sx_1 rfl ?_
      refine g_aload_n rfl ?_
      refine g_gfk hI sx_20 rfl ev201 ?_
      refine g_baload hI sx_2 rfl (by omega) (fun v211 ev211 lv211 uv211 => ?_)
      refine g_iadd' (fun v212 _ => ?_)
      refine g_bipush (by decide) (fun v213 kv213 => ?_)
      refine g_isub' (fun v214 _ => ?_)
      refine g_ldc (by decide) (fun v215 kv215 => ?_)
      refine g_min rfl (fun v216 av216 bv216 dv216 => ?_)
      refine g_pfi hI sx_20 rfl (gz_any _) (fun H217 eH217 hIH217 => ?_)
      have hJH217 : JX H217 := JX_sF eH217 hJ
      have e218 : k1_1 = fZ H217 1 1 := by rw [eH217, fZ_sF_nc (by omega)]; exact ek1_1
      have e219 : v201 = fZ H217 20 6 := by rw [eH217, fZ_sF_ne (by decide)]; exact ev201
      have e220 : v202 = fZ H217 20 5 := by rw [eH217, fZ_sF_ne (by decide)]; exact ev202
      have ie219 : v201.toInt = (fZ H217 20 6).toInt := by rw [← e219]
      have ie220 : v202.toInt = (fZ H217 20 5).toInt := by rw [← e220]
      refine g_aload_n rfl ?_
      refine g_dup rfl ?_
      refine g_gfk hIH217 sx_20 rfl e219 ?_
      refine g_iconst (by decide) (fun v221 kv221 => ?_)
      refine g_iadd (by omega) (fun v222 ev222 => ?_)
      refine g_pfi hIH217 sx_20 rfl (by omega) (fun H223 eH223 hIH223 => ?_)
      have hJH223 : JX H223 := JX_sF eH223 hJH217
      have e224 : k1_1 = fZ H223 1 1 := by rw [eH223, fZ_sF_nc (by omega)]; exact e218
      have e225 : v202 = fZ H223 20 5 := by rw [eH223, fZ_sF_ne (by decide)]; exact e220
      have e226 : v222 = fZ H223 20 6 := by rw [eH223, fZ_sF_eq hIH217 sx_20 rfl]
      have ie225 : v202.toInt = (fZ H223 20 5).toInt := by rw [← e225]
      have ie226 : v222.toInt = (fZ H223 20 6).toInt := by rw [← e226]
      refine g_goto ?_
      have L230 : ∀ (N : Nat) (H227 : mzH), gI SX H227 → JX H227 → k1_1 = fZ H227 1 1 → v202 = fZ H227 20 5 → (900 - (fZ H227 20 6).toInt).toNat < N → gG 1 zB_78 (mzBlk zB_78 0) [(0, .ref 20)] [] H227 0 0 (gRv (fun H' => gI SX H' ∧ JX H' ∧ fZ H' 1 1 = fZ H 1 1)) := by
        intro N
        induction N with
        | zero => intro H227 hIH227 hJH227 e228 e229 hmL230; exact absurd hmL230 (Nat.not_lt_zero _)
        | succ N ihL230 =>
          intro H227 hIH227 hJH227 e228 e229 hmL230
          refine g_aload_n rfl ?_
          refine g_gfi hIH227 sx_20 rfl (fun v231 ev231 lv231 uv231 => ?_)
          have iev231 : v231.toInt = (fZ H227 20 6).toInt := by rw [← ev231]
          refine g_aload_n rfl ?_
          refine g_gfk hIH227 sx_20 rfl e229 ?_
          refine g_if2_ge (fun c232 => ?_) (fun c232 => ?_)
          · exact g_ret ⟨rfl, hIH227, hJH227, (e228.symm.trans ek1_1)⟩
          · refine g_aload_n rfl ?_
            refine g_invvi hIH227 sx_20 rfl rfl rfl rfl (s_80 H227 hIH227 hJH227 (by omega)) (fun v235 H233 r234 => ?_)
            obtain ⟨rfl, bv235⟩ := r234
            refine g_if_eq (fun c236 => ?_) (fun c236 => ?_)
            · exact g_ret ⟨rfl, hIH227, hJH227, (e228.symm.trans ek1_1)⟩
            · refine g_aload_n rfl ?_
              refine g_aload_n rfl ?_
              refine g_gfi hIH227 sx_20 rfl (fun v237 ev237 lv237 uv237 => ?_)
              refine g_bipush (by decide) (fun v238 kv238 => ?_)
              refine g_imul' (fun v239 _ => ?_)
              refine g_aload_n rfl ?_
              refine g_gfr hIH227 sx_20 rfl ?_
              refine g_gfr hIH227 sx_1 rfl ?_
              refine g_aload_n rfl ?_
              refine g_gfk hIH227 sx_20 rfl ev231 ?_
              refine g_baload hIH227 sx_2 rfl (by omega) (fun v240 ev240 lv240 uv240 => ?_)
              refine g_iadd' (fun v241 _ => ?_)
              refine g_bipush (by decide) (fun v242 kv242 => ?_)
              refine g_isub' (fun v243 _ => ?_)
              refine g_ldc (by decide) (fun v244 kv244 => ?_)
              refine g_min rfl (fun v245 av245 bv245 dv245 => ?_)
              refine g_pfi hIH227 sx_20 rfl (gz_any _) (fun H246 eH246 hIH246 => ?_)
              have hJH246 : JX H246 := JX_sF eH246 hJH227
              have e247 : k1_1 = fZ H246 1 1 := by rw [eH246, fZ_sF_nc (by omega)]; exact e228
              have e248 : v202 = fZ H246 20 5 := by rw [eH246, fZ_sF_ne (by decide)]; exact e229
              have e249 : v231 = fZ H246 20 6 := by rw [eH246, fZ_sF_ne (by decide)]; exact ev231
              have ie248 : v202.toInt = (fZ H246 20 5).toInt := by rw [← e248]
              have ie249 : v231.toInt = (fZ H246 20 6).toInt := by rw [← e249]
              refine g_aload_n rfl ?_
              refine g_dup rfl ?_
              refine g_gfk hIH246 sx_20 rfl e249 ?_
              refine g_iconst (by decide) (fun v250 kv250 => ?_)
              refine g_iadd (by omega) (fun v251 ev251 => ?_)
              refine g_pfi hIH246 sx_20 rfl (by omega) (fun H252 eH252 hIH252 => ?_)
              have hJH252 : JX H252 := JX_sF eH252 hJH246
              have e253 : k1_1 = fZ H252 1 1 := by rw [eH252, fZ_sF_nc (by omega)]; exact e247
              have e254 : v202 = fZ H252 20 5 := by rw [eH252, fZ_sF_ne (by decide)]; exact e248
              have e255 : v251 = fZ H252 20 6 := by rw [eH252, fZ_sF_eq hIH246 sx_20 rfl]
              have ie254 : v202.toInt = (fZ H252 20 5).toInt := by rw [← e254]
              have ie255 : v251.toInt = (fZ H252 20 6).toInt := by rw [← e255]
              refine g_goto ?_
              exact ihL230 H252 hIH252 hJH252 e253 e254 (by omega)
      exact L230 _ H223 hIH223 hJH223 e224 e225 (Nat.lt_succ_self _)
set_option maxRecDepth 4000 in
set_option maxHeartbeats 4000000 in
/-- X7.passToken -/
theorem s_76 (H : mzH) (hI : gI SX H) (hJ : JX H) (hp0 : (fZ H 20 6).toInt ≤ 899) : gCall 76 [.ref 20] H (gRi (fun v H' => gI SX H' ∧ JX H' ∧ fZ H' 1 1 = fZ H 1 1)) := by
  obtain ⟨k1_1, ek1_1⟩ : ∃ z, z = fZ H 1 1 := ⟨_, rfl⟩
  have ik1_1 : k1_1.toInt = (fZ H 1 1).toInt := by rw [← ek1_1]
  have bk1_1 : 0 ≤ k1_1.toInt ∧ k1_1.toInt ≤ 900 := by rw [ek1_1]; exact fZ_of hI sx_1 rfl
  obtain ⟨k20_6, ek20_6⟩ : ∃ z, z = fZ H 20 6 := ⟨_, rfl⟩
  have ik20_6 : k20_6.toInt = (fZ H 20 6).toInt := by rw [← ek20_6]
  have bk20_6 : 0 ≤ k20_6.toInt ∧ k20_6.toInt ≤ 900 := by rw [ek20_6]; exact fZ_of hI sx_20 rfl
  refine gG_call [(0, .ref 20)] ⟨rfl, trivial⟩ ?_
  show gG 1 zB_76 (mzBlk zB_76 0) [(0, .ref 20)] [] H 0 0 _
  refine g_aload_n rfl ?_
  refine g_invvi hI sx_20 rfl rfl rfl rfl (s_79 H hI hJ (by omega)) (fun v123 H121 r122 => ?_)
  obtain ⟨rfl, bv123⟩ := r122
  refine g_if_eq (fun c124 => ?_) (fun c124 => ?_)
  · refine g_aload_n rfl ?_
    refine g_invvi hI sx_20 rfl rfl rfl rfl (s_80 H hI hJ (by omega)) (fun v127 H125 r126 => ?_)
    obtain ⟨rfl, bv127⟩ := r126
    refine g_if_eq (fun c128 => ?_) (fun c128 => ?_)
    · refine g_aload_n rfl ?_
      refine g_dup rfl ?_
      refine g_gfk hI sx_20 rfl ek20_6 ?_
      refine g_iconst (by decide) (fun v129 kv129 => ?_)
      refine g_iadd (by omega) (fun v130 ev130 => ?_)
      refine g_pfi hI sx_20 rfl (by omega) (fun H131 eH131 hIH131 => ?_)
      have hJH131 : JX H131 := JX_sF eH131 hJ
      have e132 : k1_1 = fZ H131 1 1 := by rw [eH131, fZ_sF_nc (by omega)]; exact ek1_1
      have e133 : v130 = fZ H131 20 6 := by rw [eH131, fZ_sF_eq hI sx_20 rfl]
      have ie133 : v130.toInt = (fZ H131 20 6).toInt := by rw [← e133]
      refine g_aload_n rfl ?_
      refine g_gfr hIH131 sx_20 rfl ?_
      refine g_gfr hIH131 sx_1 rfl ?_
      refine g_aload_n rfl ?_
      refine g_gfk hIH131 sx_20 rfl e133 ?_
      refine g_iconst (by decide) (fun v134 kv134 => ?_)
      refine g_isub (by omega) (fun v135 ev135 => ?_)
      refine g_baload hIH131 sx_2 rfl (by omega) (fun v136 ev136 lv136 uv136 => ?_)
      refine g_bipush (by decide) (fun v137 kv137 => ?_)
      refine g_if2_ne (fun c138 => ?_) (fun c138 => ?_)
      · refine g_bipush (by decide) (fun v139 kv139 => ?_)
        refine g_nop ?_
        exact g_iret ⟨_, rfl, hIH131, hJH131, (e132.symm.trans ek1_1)⟩
      · refine g_bipush (by decide) (fun v140 kv140 => ?_)
        refine g_goto ?_
        exact g_iret ⟨_, rfl, hIH131, hJH131, (e132.symm.trans ek1_1)⟩
    · refine g_aload_n rfl ?_
      refine g_invvv hI sx_20 rfl rfl rfl rfl (s_78 H hI hJ) (fun H141 r142 => ?_)
      obtain ⟨hIH141, hJH141, w143⟩ := r142
      have e144 : k1_1 = fZ H141 1 1 := ek1_1.trans w143.symm
      refine g_bipush (by decide) (fun v145 kv145 => ?_)
      exact g_iret ⟨_, rfl, hIH141, hJH141, (e144.symm.trans ek1_1)⟩
  · refine g_aload_n rfl ?_
    refine g_invvi hI sx_20 rfl rfl rfl rfl (s_77 H hI hJ) (fun v148 H146 r147 => ?_)
    obtain ⟨hIH146, hJH146, w149⟩ := r147
    have e150 : k1_1 = fZ H146 1 1 := ek1_1.trans w149.symm
    exact g_iret ⟨_, rfl, hIH146, hJH146, (e150.symm.trans ek1_1)⟩
