set_option maxRecDepth 4000 in
set_option maxHeartbeats 4000000 in
/-- X1.hasPlace -/
theorem s_11 (b : Nat) (hb : zBo b) (a1 : Int32) (H : mzH) (hI : gI SX H) (hJ : JX H) : gCall 11 [.ref b, .int a1] H (gRi (fun v H' => H = H' ∧ (0 ≤ v.toInt ∧ v.toInt ≤ 1) ∧ (v.toInt = 0 ∨ (0 ≤ a1.toInt ∧ a1.toInt ≤ 7)))) := by
  obtain ⟨hbr, hb0, hb1, hb2, hb3, hb4, hb5, hb6, hb7⟩ := id hb
  refine gG_call [(0, .ref b), (1, .int a1)] ⟨rfl, rfl, trivial⟩ ?_
  show gG 2 zB_11 (mzBlk zB_11 0) [(0, .ref b), (1, .int a1)] [] H 0 0 _
  refine g_iload_n rfl ?_
  refine g_if_lt (fun c25 => ?_) (fun c25 => ?_)
  · refine g_iconst (by decide) (fun v26 kv26 => ?_)
    refine g_nop ?_
    exact g_zret (by omega) ⟨_, rfl, rfl, (by omega), (by omega)⟩
  · refine g_iload_n rfl ?_
    refine g_aload_n rfl ?_
    refine g_gfi hI hb0 rfl (fun v27 ev27 lv27 uv27 => ?_)
    refine g_if2_ge (fun c28 => ?_) (fun c28 => ?_)
    · refine g_iconst (by decide) (fun v29 kv29 => ?_)
      refine g_nop ?_
      exact g_zret (by omega) ⟨_, rfl, rfl, (by omega), (by omega)⟩
    · refine g_iconst (by decide) (fun v30 kv30 => ?_)
      refine g_goto ?_
      exact g_zret (by omega) ⟨_, rfl, rfl, (by omega), (by omega)⟩
set_option maxRecDepth 4000 in
set_option maxHeartbeats 4000000 in
/-- X1.hasMessage -/
theorem s_12 (b : Nat) (hb : zBo b) (a1 : Int32) (H : mzH) (hI : gI SX H) (hJ : JX H) : gCall 12 [.ref b, .int a1] H (gRi (fun v H' => H = H' ∧ (0 ≤ v.toInt ∧ v.toInt ≤ 1) ∧ (v.toInt = 0 ∨ (0 ≤ a1.toInt ∧ a1.toInt ≤ 59)))) := by
  obtain ⟨hbr, hb0, hb1, hb2, hb3, hb4, hb5, hb6, hb7⟩ := id hb
  refine gG_call [(0, .ref b), (1, .int a1)] ⟨rfl, rfl, trivial⟩ ?_
  show gG 2 zB_12 (mzBlk zB_12 0) [(0, .ref b), (1, .int a1)] [] H 0 0 _
  refine g_iload_n rfl ?_
  refine g_if_lt (fun c25 => ?_) (fun c25 => ?_)
  · refine g_iconst (by decide) (fun v26 kv26 => ?_)
    refine g_nop ?_
    exact g_zret (by omega) ⟨_, rfl, rfl, (by omega), (by omega)⟩
  · refine g_iload_n rfl ?_
    refine g_aload_n rfl ?_
    refine g_gfi hI hb0 rfl (fun v27 ev27 lv27 uv27 => ?_)
    refine g_if2_ge (fun c28 => ?_) (fun c28 => ?_)
    · refine g_iconst (by decide) (fun v29 kv29 => ?_)
      refine g_nop ?_
      exact g_zret (by omega) ⟨_, rfl, rfl, (by omega), (by omega)⟩
    · refine g_iconst (by decide) (fun v30 kv30 => ?_)
      refine g_goto ?_
      exact g_zret (by omega) ⟨_, rfl, rfl, (by omega), (by omega)⟩
set_option maxRecDepth 4000 in
set_option maxHeartbeats 4000000 in
/-- X1.placeNamed -/
theorem s_13 (b : Nat) (hb : zBo b) (a1 : Int32) (H : mzH) (hI : gI SX H) (hJ : JX H) : gCall 13 [.ref b, .int a1] H (gRi (fun v H' => H = H' ∧ (-2 ≤ v.toInt ∧ v.toInt ≤ 7))) := by
  obtain ⟨hbr, hb0, hb1, hb2, hb3, hb4, hb5, hb6, hb7⟩ := id hb
  refine gG_call [(0, .ref b), (1, .int a1)] ⟨rfl, rfl, trivial⟩ ?_
  show gG 3 zB_13 (mzBlk zB_13 0) [(0, .ref b), (1, .int a1)] [] H 0 0 _
  refine g_iconst (by decide) (fun v69 kv69 => ?_)
  refine g_istore_n (l' := [(0, .ref b), (1, .int a1), (2, .int v69)]) rfl rfl ?_
  refine g_nop ?_
  have L71 : ∀ (N : Nat) (v70 : Int32), (0 ≤ v70.toInt ∧ v70.toInt ≤ 8) → (8 - v70.toInt).toNat < N → gG 3 zB_13 (mzBlk zB_13 1) [(0, .ref b), (1, .int a1), (2, .int v70)] [] H 0 0 (gRi (fun v H' => H = H' ∧ (-2 ≤ v.toInt ∧ v.toInt ≤ 7))) := by
    intro N
    induction N with
    | zero => intro v70 bv70 hmL71; exact absurd hmL71 (Nat.not_lt_zero _)
    | succ N ihL71 =>
      intro v70 bv70 hmL71
      refine g_iload_n rfl ?_
      refine g_aload_n rfl ?_
      refine g_gfi hI hb0 rfl (fun v72 ev72 lv72 uv72 => ?_)
      refine g_if2_ge (fun c73 => ?_) (fun c73 => ?_)
      · refine g_bipush (by decide) (fun v74 kv74 => ?_)
        exact g_iret ⟨_, rfl, rfl, (by omega)⟩
      · refine g_aload_n rfl ?_
        refine g_gfr hI hb0 rfl ?_
        refine g_iload_n rfl ?_
        refine g_iaload hI hb1 rfl (by omega) (fun v75 ev75 lv75 uv75 => ?_)
        refine g_iload_n rfl ?_
        refine g_if2_ne (fun c76 => ?_) (fun c76 => ?_)
        · refine g_iinc (l' := (fun v77 => [(0, .ref b), (1, .int a1), (2, .int v77)])) rfl rfl (by decide) (by omega) (fun _ => rfl) (fun v77 ev77 => ?_)
          refine g_goto ?_
          exact ihL71 v77 (by omega) (by omega)
        · refine g_iload_n rfl ?_
          exact g_iret ⟨_, rfl, rfl, (by omega)⟩
  exact L71 _ v69 (by omega) (Nat.lt_succ_self _)
set_option maxRecDepth 4000 in
set_option maxHeartbeats 4000000 in
/-- X1.addPlace -/
theorem s_14 (b : Nat) (hb : zBo b) (a1 : Int32) (H : mzH) (hI : gI SX H) (hJ : JX H) : gCall 14 [.ref b, .int a1] H (gRv (fun H' => gI SX H' ∧ JX H' ∧ fZ H' 1 1 = fZ H 1 1 ∧ fZ H' 19 7 = fZ H 19 7)) := by
  obtain ⟨hbr, hb0, hb1, hb2, hb3, hb4, hb5, hb6, hb7⟩ := id hb
  obtain ⟨k1_1, ek1_1⟩ : ∃ z, z = fZ H 1 1 := ⟨_, rfl⟩
  have ik1_1 : k1_1.toInt = (fZ H 1 1).toInt := by rw [← ek1_1]
  have bk1_1 : 0 ≤ k1_1.toInt ∧ k1_1.toInt ≤ 900 := by rw [ek1_1]; exact fZ_of hI sx_1 rfl
  obtain ⟨k19_7, ek19_7⟩ : ∃ z, z = fZ H 19 7 := ⟨_, rfl⟩
  have ik19_7 : k19_7.toInt = (fZ H 19 7).toInt := by rw [← ek19_7]
  refine gG_call [(0, .ref b), (1, .int a1)] ⟨rfl, rfl, trivial⟩ ?_
  show gG 2 zB_14 (mzBlk zB_14 0) [(0, .ref b), (1, .int a1)] [] H 0 0 _
  refine g_aload_n rfl ?_
  refine g_gfi hI hb0 rfl (fun v85 ev85 lv85 uv85 => ?_)
  refine g_bipush (by decide) (fun v86 kv86 => ?_)
  refine g_if2_ge (fun c87 => ?_) (fun c87 => ?_)
  · exact g_ret ⟨rfl, hI, hJ, (ek1_1.symm.trans ek1_1), (ek19_7.symm.trans ek19_7)⟩
  · refine g_aload_n rfl ?_
    refine g_gfr hI hb0 rfl ?_
    refine g_aload_n rfl ?_
    refine g_gfk hI hb0 rfl ev85 ?_
    refine g_iload_n rfl ?_
    refine g_iastore hI hb1 (by omega) (gz_any _) (fun H88 eH88 hIH88 => ?_)
    have hJH88 : JX H88 := JX_sA (by omega) eH88 hJ
    have e89 : k1_1 = fZ H88 1 1 := by rw [eH88, fZ_sA]; exact ek1_1
    have e90 : k19_7 = fZ H88 19 7 := by rw [eH88, fZ_sA]; exact ek19_7
    have e91 : v85 = fZ H88 b 7 := by rw [eH88, fZ_sA]; exact ev85
    refine g_aload_n rfl ?_
    refine g_gfr hIH88 hb0 rfl ?_
    refine g_aload_n rfl ?_
    refine g_gfk hIH88 hb0 rfl e91 ?_
    refine g_bipush (by decide) (fun v92 kv92 => ?_)
    refine g_imulk (n := 8) kv92 (by omega) (fun v93 ev93 => ?_)
    refine g_aload_n rfl ?_
    refine g_gfk hIH88 hb0 rfl e91 ?_
    refine g_iadd (by omega) (fun v94 ev94 => ?_)
    refine g_iconst (by decide) (fun v95 kv95 => ?_)
    refine g_iastore hIH88 hb2 (by omega) (gz_any _) (fun H96 eH96 hIH96 => ?_)
    have hJH96 : JX H96 := JX_sA (by omega) eH96 hJH88
    have e97 : k1_1 = fZ H96 1 1 := by rw [eH96, fZ_sA]; exact e89
    have e98 : k19_7 = fZ H96 19 7 := by rw [eH96, fZ_sA]; exact e90
    have e99 : v85 = fZ H96 b 7 := by rw [eH96, fZ_sA]; exact e91
    refine g_aload_n rfl ?_
    refine g_dup rfl ?_
    refine g_gfk hIH96 hb0 rfl e99 ?_
    refine g_iconst (by decide) (fun v100 kv100 => ?_)
    refine g_iadd (by omega) (fun v101 ev101 => ?_)
    refine g_pfi hIH96 hb0 rfl (by omega) (fun H102 eH102 hIH102 => ?_)
    have hJH102 : JX H102 := JX_sF eH102 hJH96
    have e103 : k1_1 = fZ H102 1 1 := by rw [eH102, fZ_sF_nc (by omega)]; exact e97
    have e104 : k19_7 = fZ H102 19 7 := by rw [eH102, fZ_sF_nc (by omega)]; exact e98
    have e105 : v101 = fZ H102 b 7 := by rw [eH102, fZ_sF_eq hIH96 hb0 rfl]
    refine g_nop ?_
    exact g_ret ⟨rfl, hIH102, hJH102, (e103.symm.trans ek1_1), (e104.symm.trans ek19_7)⟩
set_option maxRecDepth 4000 in
set_option maxHeartbeats 4000000 in
/-- X1.shorten -/
theorem s_18 (b : Nat) (hb : zBo b) (a1 : Int32) (a2 : Int32) (a3 : Int32) (H : mzH) (hI : gI SX H) (hJ : JX H) : gCall 18 [.ref b, .int a1, .int a2, .int a3] H (gRv (fun H' => gI SX H' ∧ JX H' ∧ fZ H' 1 1 = fZ H 1 1 ∧ fZ H' 19 7 = fZ H 19 7)) := by
  obtain ⟨hbr, hb0, hb1, hb2, hb3, hb4, hb5, hb6, hb7⟩ := id hb
  obtain ⟨k1_1, ek1_1⟩ : ∃ z, z = fZ H 1 1 := ⟨_, rfl⟩
  have ik1_1 : k1_1.toInt = (fZ H 1 1).toInt := by rw [← ek1_1]
  have bk1_1 : 0 ≤ k1_1.toInt ∧ k1_1.toInt ≤ 900 := by rw [ek1_1]; exact fZ_of hI sx_1 rfl
  obtain ⟨k19_7, ek19_7⟩ : ∃ z, z = fZ H 19 7 := ⟨_, rfl⟩
  have ik19_7 : k19_7.toInt = (fZ H 19 7).toInt := by rw [← ek19_7]
  refine gG_call [(0, .ref b), (1, .int a1), (2, .int a2), (3, .int a3)] ⟨rfl, rfl, rfl, rfl, trivial⟩ ?_
  show gG 5 zB_18 (mzBlk zB_18 0) [(0, .ref b), (1, .int a1), (2, .int a2), (3, .int a3)] [] H 0 0 _
  refine g_aload_n rfl ?_
  refine g_iload_n rfl ?_
  refine g_iload_n rfl ?_
  refine g_invvi hI hb0 rfl rfl rfl rfl (s_17 b hb a1 a2 H hI hJ) (fun v115 H113 r114 => ?_)
  obtain rfl := r114
  refine g_istore (l' := [(0, .ref b), (1, .int a1), (2, .int a2), (3, .int a3), (4, .int v115)]) rfl rfl ?_
  refine g_aload_n rfl ?_
  refine g_iload_n rfl ?_
  refine g_invvi hI hb0 rfl rfl rfl rfl (s_11 b hb a1 H hI hJ) (fun v118 H116 r117 => ?_)
  obtain ⟨rfl, bv118, p119⟩ := r117
  refine g_if_eq (fun c120 => ?_) (fun c120 => ?_)
  · exact g_ret ⟨rfl, hI, hJ, (ek1_1.symm.trans ek1_1), (ek19_7.symm.trans ek19_7)⟩
  · refine g_aload_n rfl ?_
    refine g_iload_n rfl ?_
    refine g_invvi hI hb0 rfl rfl rfl rfl (s_11 b hb a2 H hI hJ) (fun v123 H121 r122 => ?_)
    obtain ⟨rfl, bv123, p124⟩ := r122
    refine g_if_eq (fun c125 => ?_) (fun c125 => ?_)
    · exact g_ret ⟨rfl, hI, hJ, (ek1_1.symm.trans ek1_1), (ek19_7.symm.trans ek19_7)⟩
    · refine g_iload rfl ?_
      refine g_bipush (by decide) (fun v126 kv126 => ?_)
      refine g_if2_eq (fun c127 => ?_) (fun c127 => ?_)
      · refine g_aload_n rfl ?_
        refine g_gfr hI hb0 rfl ?_
        refine g_iload_n rfl ?_
        refine g_bipush (by decide) (fun v128 kv128 => ?_)
        refine g_imulk (n := 8) kv128 (by omega) (fun v129 ev129 => ?_)
        refine g_iload_n rfl ?_
        refine g_iadd (by omega) (fun v130 ev130 => ?_)
        refine g_iload_n rfl ?_
        refine g_iastore hI hb2 (by omega) (gz_any _) (fun H131 eH131 hIH131 => ?_)
        have hJH131 : JX H131 := JX_sA (by omega) eH131 hJ
        have e132 : k1_1 = fZ H131 1 1 := by rw [eH131, fZ_sA]; exact ek1_1
        have e133 : k19_7 = fZ H131 19 7 := by rw [eH131, fZ_sA]; exact ek19_7
        refine g_nop ?_
        exact g_ret ⟨rfl, hIH131, hJH131, (e132.symm.trans ek1_1), (e133.symm.trans ek19_7)⟩
      · refine g_iload_n rfl ?_
        refine g_iload rfl ?_
        refine g_if2_ge (fun c134 => ?_) (fun c134 => ?_)
        · exact g_ret ⟨rfl, hI, hJ, (ek1_1.symm.trans ek1_1), (ek19_7.symm.trans ek19_7)⟩
        · refine g_nop ?_
          refine g_aload_n rfl ?_
          refine g_gfr hI hb0 rfl ?_
          refine g_iload_n rfl ?_
          refine g_bipush (by decide) (fun v135 kv135 => ?_)
          refine g_imulk (n := 8) kv135 (by omega) (fun v136 ev136 => ?_)
          refine g_iload_n rfl ?_
          refine g_iadd (by omega) (fun v137 ev137 => ?_)
          refine g_iload_n rfl ?_
          refine g_iastore hI hb2 (by omega) (gz_any _) (fun H138 eH138 hIH138 => ?_)
          have hJH138 : JX H138 := JX_sA (by omega) eH138 hJ
          have e139 : k1_1 = fZ H138 1 1 := by rw [eH138, fZ_sA]; exact ek1_1
          have e140 : k19_7 = fZ H138 19 7 := by rw [eH138, fZ_sA]; exact ek19_7
          refine g_nop ?_
          exact g_ret ⟨rfl, hIH138, hJH138, (e139.symm.trans ek1_1), (e140.symm.trans ek19_7)⟩
set_option maxRecDepth 4000 in
set_option maxHeartbeats 4000000 in
/-- X1.addRoad -/
theorem s_15 (b : Nat) (hb : zBo b) (a1 : Int32) (a2 : Int32) (a3 : Int32) (H : mzH) (hI : gI SX H) (hJ : JX H) : gCall 15 [.ref b, .int a1, .int a2, .int a3] H (gRv (fun H' => gI SX H' ∧ JX H' ∧ fZ H' 1 1 = fZ H 1 1 ∧ fZ H' 19 7 = fZ H 19 7)) := by
  obtain ⟨hbr, hb0, hb1, hb2, hb3, hb4, hb5, hb6, hb7⟩ := id hb
  obtain ⟨k1_1, ek1_1⟩ : ∃ z, z = fZ H 1 1 := ⟨_, rfl⟩
  have ik1_1 : k1_1.toInt = (fZ H 1 1).toInt := by rw [← ek1_1]
  have bk1_1 : 0 ≤ k1_1.toInt ∧ k1_1.toInt ≤ 900 := by rw [ek1_1]; exact fZ_of hI sx_1 rfl
  obtain ⟨k19_7, ek19_7⟩ : ∃ z, z = fZ H 19 7 := ⟨_, rfl⟩
  have ik19_7 : k19_7.toInt = (fZ H 19 7).toInt := by rw [← ek19_7]
  refine gG_call [(0, .ref b), (1, .int a1), (2, .int a2), (3, .int a3)] ⟨rfl, rfl, rfl, rfl, trivial⟩ ?_
  show gG 4 zB_15 (mzBlk zB_15 0) [(0, .ref b), (1, .int a1), (2, .int a2), (3, .int a3)] [] H 0 0 _
  refine g_aload_n rfl ?_
  refine g_iload_n rfl ?_
  refine g_iload_n rfl ?_
  refine g_iload_n rfl ?_
  refine g_invvv hI hb0 rfl rfl rfl rfl (s_18 b hb a1 a2 a3 H hI hJ) (fun H73 r74 => ?_)
  obtain ⟨hIH73, hJH73, w75, w76⟩ := r74
  have e77 : k1_1 = fZ H73 1 1 := ek1_1.trans w75.symm
  have e78 : k19_7 = fZ H73 19 7 := ek19_7.trans w76.symm
  refine g_aload_n rfl ?_
  refine g_iload_n rfl ?_
  refine g_iload_n rfl ?_
  refine g_iload_n rfl ?_
  refine g_invvv hIH73 hb0 rfl rfl rfl rfl (s_18 b hb a2 a1 a3 H73 hIH73 hJH73) (fun H79 r80 => ?_)
  obtain ⟨hIH79, hJH79, w81, w82⟩ := r80
  have e83 : k1_1 = fZ H79 1 1 := e77.trans w81.symm
  have e84 : k19_7 = fZ H79 19 7 := e78.trans w82.symm
  refine g_aload_n rfl ?_
  refine g_dup rfl ?_
  refine g_gfi hIH79 hb0 rfl (fun v85 ev85 lv85 uv85 => ?_)
  refine g_iconst (by decide) (fun v86 kv86 => ?_)
  refine g_iadd' (fun v87 _ => ?_)
  refine g_pfi hIH79 hb0 rfl (gz_any _) (fun H88 eH88 hIH88 => ?_)
  have hJH88 : JX H88 := JX_sF eH88 hJH79
  have e89 : k1_1 = fZ H88 1 1 := by rw [eH88, fZ_sF_nc (by omega)]; exact e83
  have e90 : k19_7 = fZ H88 19 7 := by rw [eH88, fZ_sF_nc (by omega)]; exact e84
  exact g_ret ⟨rfl, hIH88, hJH88, (e89.symm.trans ek1_1), (e90.symm.trans ek19_7)⟩
set_option maxRecDepth 4000 in
set_option maxHeartbeats 4000000 in
/-- X1.addMessage -/
theorem s_16 (b : Nat) (hb : zBo b) (a1 : Int32) (a2 : Int32) (a3 : Int32) (ha3 : 0 ≤ a3.toInt ∧ a3.toInt ≤ 39) (a4 : Int32) (ha4 : -2 ≤ a4.toInt ∧ a4.toInt ≤ 39) (a5 : Int32) (H : mzH) (hI : gI SX H) (hJ : JX H) (hp0 : (a2.toInt = 1 → 0 ≤ a4.toInt)) : gCall 16 [.ref b, .int a1, .int a2, .int a3, .int a4, .int a5] H (gRv (fun H' => gI SX H' ∧ JX H' ∧ fZ H' 1 1 = fZ H 1 1 ∧ fZ H' 19 7 = fZ H 19 7)) := by
  obtain ⟨hbr, hb0, hb1, hb2, hb3, hb4, hb5, hb6, hb7⟩ := id hb
  obtain ⟨k1_1, ek1_1⟩ : ∃ z, z = fZ H 1 1 := ⟨_, rfl⟩
  have ik1_1 : k1_1.toInt = (fZ H 1 1).toInt := by rw [← ek1_1]
  have bk1_1 : 0 ≤ k1_1.toInt ∧ k1_1.toInt ≤ 900 := by rw [ek1_1]; exact fZ_of hI sx_1 rfl
  obtain ⟨k19_7, ek19_7⟩ : ∃ z, z = fZ H 19 7 := ⟨_, rfl⟩
  have ik19_7 : k19_7.toInt = (fZ H 19 7).toInt := by rw [← ek19_7]
  refine gG_call [(0, .ref b), (1, .int a1), (2, .int a2), (3, .int a3), (4, .int a4), (5, .int a5)] ⟨rfl, rfl, rfl, rfl, rfl, rfl, trivial⟩ ?_
  show gG 6 zB_16 (mzBlk zB_16 0) [(0, .ref b), (1, .int a1), (2, .int a2), (3, .int a3), (4, .int a4), (5, .int a5)] [] H 0 0 _
  refine g_aload_n rfl ?_
  refine g_gfi hI hb0 rfl (fun v117 ev117 lv117 uv117 => ?_)
  refine g_bipush (by decide) (fun v118 kv118 => ?_)
  refine g_if2_ge (fun c119 => ?_) (fun c119 => ?_)
  · exact g_ret ⟨rfl, hI, hJ, (ek1_1.symm.trans ek1_1), (ek19_7.symm.trans ek19_7)⟩
  · refine g_aload_n rfl ?_
    refine g_gfr hI hb0 rfl ?_
    refine g_aload_n rfl ?_
    refine g_gfk hI hb0 rfl ev117 ?_
    refine g_iload_n rfl ?_
    refine g_iastore hI hb3 (by omega) (gz_any _) (fun H120 eH120 hIH120 => ?_)
    have e121 : k1_1 = fZ H120 1 1 := by rw [eH120, fZ_sA]; exact ek1_1
    have e122 : k19_7 = fZ H120 19 7 := by rw [eH120, fZ_sA]; exact ek19_7
    have e123 : v117 = fZ H120 b 9 := by rw [eH120, fZ_sA]; exact ev117
    refine g_aload_n rfl ?_
    refine g_gfr hIH120 hb0 rfl ?_
    refine g_aload_n rfl ?_
    refine g_gfk hIH120 hb0 rfl e123 ?_
    refine g_iload_n rfl ?_
    refine g_iastore hIH120 hb4 (by omega) (gz_any _) (fun H124 eH124 hIH124 => ?_)
    have e125 : k1_1 = fZ H124 1 1 := by rw [eH124, fZ_sA]; exact e121
    have e126 : k19_7 = fZ H124 19 7 := by rw [eH124, fZ_sA]; exact e122
    have e127 : v117 = fZ H124 b 9 := by rw [eH124, fZ_sA]; exact e123
    refine g_aload_n rfl ?_
    refine g_gfr hIH124 hb0 rfl ?_
    refine g_aload_n rfl ?_
    refine g_gfk hIH124 hb0 rfl e127 ?_
    refine g_iload_n rfl ?_
    refine g_iastore hIH124 hb5 (by omega) (by omega) (fun H128 eH128 hIH128 => ?_)
    have e129 : k1_1 = fZ H128 1 1 := by rw [eH128, fZ_sA]; exact e125
    have e130 : k19_7 = fZ H128 19 7 := by rw [eH128, fZ_sA]; exact e126
    have e131 : v117 = fZ H128 b 9 := by rw [eH128, fZ_sA]; exact e127
    refine g_aload_n rfl ?_
    refine g_gfr hIH128 hb0 rfl ?_
    refine g_aload_n rfl ?_
    refine g_gfk hIH128 hb0 rfl e131 ?_
    refine g_iload rfl ?_
    refine g_iastore hIH128 hb6 (by omega) (by omega) (fun H132 eH132 hIH132 => ?_)
    have e133 : k1_1 = fZ H132 1 1 := by rw [eH132, fZ_sA]; exact e129
    have e134 : k19_7 = fZ H132 19 7 := by rw [eH132, fZ_sA]; exact e130
    have e135 : v117 = fZ H132 b 9 := by rw [eH132, fZ_sA]; exact e131
    refine g_aload_n rfl ?_
    refine g_gfr hIH132 hb0 rfl ?_
    refine g_aload_n rfl ?_
    refine g_gfk hIH132 hb0 rfl e135 ?_
    refine g_iload rfl ?_
    refine g_iastore hIH132 hb7 (by omega) (gz_any _) (fun H136 eH136 hIH136 => ?_)
    have e137 : k1_1 = fZ H136 1 1 := by rw [eH136, fZ_sA]; exact e133
    have e138 : k19_7 = fZ H136 19 7 := by rw [eH136, fZ_sA]; exact e134
    have e139 : v117 = fZ H136 b 9 := by rw [eH136, fZ_sA]; exact e135
    refine g_aload_n rfl ?_
    refine g_dup rfl ?_
    refine g_gfk hIH136 hb0 rfl e139 ?_
    refine g_iconst (by decide) (fun v140 kv140 => ?_)
    refine g_iadd (by omega) (fun v141 ev141 => ?_)
    refine g_pfi hIH136 hb0 rfl (by omega) (fun H142 eH142 hIH142 => ?_)
    have e143 : k1_1 = fZ H142 1 1 := by rw [eH142, fZ_sF_nc (by omega)]; exact e137
    have e144 : k19_7 = fZ H142 19 7 := by rw [eH142, fZ_sF_nc (by omega)]; exact e138
    have e145 : v141 = fZ H142 b 9 := by rw [eH142, fZ_sF_eq hIH136 hb0 rfl]
    refine g_nop ?_
    exact g_ret ⟨rfl, hIH142, (JX_add hbr hp0 (by omega) hJ hIH120 hIH128 eH120 eH124 eH128 eH132 eH136 eH142), (e143.symm.trans ek1_1), (e144.symm.trans ek19_7)⟩
set_option maxRecDepth 4000 in
set_option maxHeartbeats 4000000 in
/-- X1.joinRoads -/
theorem s_19 (b : Nat) (hb : zBo b) (H : mzH) (hI : gI SX H) (hJ : JX H) : gCall 19 [.ref b] H (gRv (fun H' => gI SX H' ∧ JX H' ∧ fZ H' 1 1 = fZ H 1 1)) := by
  obtain ⟨hbr, hb0, hb1, hb2, hb3, hb4, hb5, hb6, hb7⟩ := id hb
  obtain ⟨k1_1, ek1_1⟩ : ∃ z, z = fZ H 1 1 := ⟨_, rfl⟩
  have ik1_1 : k1_1.toInt = (fZ H 1 1).toInt := by rw [← ek1_1]
  have bk1_1 : 0 ≤ k1_1.toInt ∧ k1_1.toInt ≤ 900 := by rw [ek1_1]; exact fZ_of hI sx_1 rfl
  refine gG_call [(0, .ref b)] ⟨rfl, trivial⟩ ?_
  show gG 4 zB_19 (mzBlk zB_19 0) [(0, .ref b)] [] H 0 0 _
  refine g_iconst (by decide) (fun v325 kv325 => ?_)
  refine g_istore_n (l' := [(0, .ref b), (1, .int v325)]) rfl rfl ?_
  refine g_nop ?_
  have L329 : ∀ (N : Nat) (v326 : Int32) (H327 : mzH), gI SX H327 → JX H327 → k1_1 = fZ H327 1 1 → (0 ≤ v326.toInt ∧ v326.toInt ≤ 8) → (8 - v326.toInt).toNat < N → gG 4 zB_19 (mzBlk zB_19 1) [(0, .ref b), (1, .int v326)] [] H327 0 0 (gRv (fun H' => gI SX H' ∧ JX H' ∧ fZ H' 1 1 = fZ H 1 1)) := by
    intro N
    induction N with
    | zero => intro v326 H327 hIH327 hJH327 e328 bv326 hmL329; exact absurd hmL329 (Nat.not_lt_zero _)
    | succ N ihL329 =>
      intro v326 H327 hIH327 hJH327 e328 bv326 hmL329
      refine g_iload_n rfl ?_
      refine g_aload_n rfl ?_
      refine g_gfi hIH327 hb0 rfl (fun v330 ev330 lv330 uv330 => ?_)
      refine g_if2_ge (fun c331 => ?_) (fun c331 => ?_)
      · exact g_ret ⟨rfl, hIH327, hJH327, (e328.symm.trans ek1_1)⟩
      · refine g_iconst (by decide) (fun v332 kv332 => ?_)
        refine g_istore_n (l' := [(0, .ref b), (1, .int v326), (2, .int v332)]) rfl rfl ?_
        refine g_nop ?_
        have L336 : ∀ (N : Nat) (v333 : Int32) (H334 : mzH), gI SX H334 → JX H334 → k1_1 = fZ H334 1 1 → (0 ≤ v333.toInt ∧ v333.toInt ≤ 8) → (8 - v333.toInt).toNat < N → gG 4 zB_19 (mzBlk zB_19 2) [(0, .ref b), (1, .int v326), (2, .int v333)] [] H334 0 0 (gRv (fun H' => gI SX H' ∧ JX H' ∧ fZ H' 1 1 = fZ H 1 1)) := by
          intro N
          induction N with
          | zero => intro v333 H334 hIH334 hJH334 e335 bv333 hmL336; exact absurd hmL336 (Nat.not_lt_zero _)
          | succ N ihL336 =>
            intro v333 H334 hIH334 hJH334 e335 bv333 hmL336
            refine g_iload_n rfl ?_
            refine g_aload_n rfl ?_
            refine g_gfi hIH334 hb0 rfl (fun v337 ev337 lv337 uv337 => ?_)
            refine g_if2_ge (fun c338 => ?_) (fun c338 => ?_)
            · refine g_iinc (l' := (fun v339 => [(0, .ref b), (1, .int v339), (2, .int v333)])) rfl rfl (by decide) (by omega) (fun _ => rfl) (fun v339 ev339 => ?_)
              refine g_goto ?_
              refine gG_pick [0, 1] (l' := [(0, .ref b), (1, .int v339)]) rfl ?_
              exact ihL329 v339 H334 hIH334 hJH334 e335 (by omega) (by omega)
            · refine g_iconst (by decide) (fun v340 kv340 => ?_)
              refine g_istore_n (l' := [(0, .ref b), (1, .int v326), (2, .int v333), (3, .int v340)]) rfl rfl ?_
              refine g_nop ?_
              have L344 : ∀ (N : Nat) (v341 : Int32) (H342 : mzH), gI SX H342 → JX H342 → k1_1 = fZ H342 1 1 → (0 ≤ v341.toInt ∧ v341.toInt ≤ 8) → (8 - v341.toInt).toNat < N → gG 4 zB_19 (mzBlk zB_19 3) [(0, .ref b), (1, .int v326), (2, .int v333), (3, .int v341)] [] H342 0 0 (gRv (fun H' => gI SX H' ∧ JX H' ∧ fZ H' 1 1 = fZ H 1 1)) := by
                intro N
                induction N with
                | zero => intro v341 H342 hIH342 hJH342 e343 bv341 hmL344; exact absurd hmL344 (Nat.not_lt_zero _)
                | succ N ihL344 =>
                  intro v341 H342 hIH342 hJH342 e343 bv341 hmL344
                  refine g_iload_n rfl ?_
                  refine g_aload_n rfl ?_
                  refine g_gfi hIH342 hb0 rfl (fun v345 ev345 lv345 uv345 => ?_)
                  refine g_if2_ge (fun c346 => ?_) (fun c346 => ?_)
                  · refine g_iinc (l' := (fun v347 => [(0, .ref b), (1, .int v326), (2, .int v347), (3, .int v341)])) rfl rfl (by decide) (by omega) (fun _ => rfl) (fun v347 ev347 => ?_)
                    refine g_goto ?_
                    refine gG_pick [0, 1, 2] (l' := [(0, .ref b), (1, .int v326), (2, .int v347)]) rfl ?_
                    exact ihL336 v347 H342 hIH342 hJH342 e343 (by omega) (by omega)
                  · refine g_aload_n rfl ?_
                    refine g_iload_n rfl ?_
                    refine g_iload_n rfl ?_
                    refine g_invvi hIH342 hb0 rfl rfl rfl rfl (s_17 b hb v333 v326 H342 hIH342 hJH342) (fun v350 H348 r349 => ?_)
                    obtain rfl := r349
                    refine g_bipush (by decide) (fun v351 kv351 => ?_)
                    refine g_if2_eq (fun c352 => ?_) (fun c352 => ?_)
                    · refine g_iinc (l' := (fun v353 => [(0, .ref b), (1, .int v326), (2, .int v333), (3, .int v353)])) rfl rfl (by decide) (by omega) (fun _ => rfl) (fun v353 ev353 => ?_)
                      refine g_goto ?_
                      exact ihL344 v353 H342 hIH342 hJH342 e343 (by omega) (by omega)
                    · refine g_aload_n rfl ?_
                      refine g_iload_n rfl ?_
                      refine g_iload_n rfl ?_
                      refine g_invvi hIH342 hb0 rfl rfl rfl rfl (s_17 b hb v326 v341 H342 hIH342 hJH342) (fun v356 H354 r355 => ?_)
                      obtain rfl := r355
                      refine g_bipush (by decide) (fun v357 kv357 => ?_)
                      refine g_if2_eq (fun c358 => ?_) (fun c358 => ?_)
                      · refine g_iinc (l' := (fun v359 => [(0, .ref b), (1, .int v326), (2, .int v333), (3, .int v359)])) rfl rfl (by decide) (by omega) (fun _ => rfl) (fun v359 ev359 => ?_)
                        refine g_goto ?_
                        exact ihL344 v359 H342 hIH342 hJH342 e343 (by omega) (by omega)
                      · refine g_aload_n rfl ?_
                        refine g_iload_n rfl ?_
                        refine g_iload_n rfl ?_
                        refine g_aload_n rfl ?_
                        refine g_iload_n rfl ?_
                        refine g_iload_n rfl ?_
                        refine g_invvi hIH342 hb0 rfl rfl rfl rfl (s_17 b hb v333 v326 H342 hIH342 hJH342) (fun v362 H360 r361 => ?_)
                        obtain rfl := r361
                        refine g_aload_n rfl ?_
                        refine g_iload_n rfl ?_
                        refine g_iload_n rfl ?_
                        refine g_invvi hIH342 hb0 rfl rfl rfl rfl (s_17 b hb v326 v341 H342 hIH342 hJH342) (fun v365 H363 r364 => ?_)
                        obtain rfl := r364
                        refine g_iadd' (fun v366 _ => ?_)
                        refine g_invvv hIH342 hb0 rfl rfl rfl rfl (s_18 b hb v333 v341 v366 H342 hIH342 hJH342) (fun H367 r368 => ?_)
                        obtain ⟨hIH367, hJH367, w369, w370⟩ := r368
                        have e371 : k1_1 = fZ H367 1 1 := e343.trans w369.symm
                        refine g_nop ?_
                        refine g_iinc (l' := (fun v372 => [(0, .ref b), (1, .int v326), (2, .int v333), (3, .int v372)])) rfl rfl (by decide) (by omega) (fun _ => rfl) (fun v372 ev372 => ?_)
                        refine g_goto ?_
                        exact ihL344 v372 H367 hIH367 hJH367 e371 (by omega) (by omega)
              exact L344 _ v340 H334 hIH334 hJH334 e335 (by omega) (Nat.lt_succ_self _)
        exact L336 _ v332 H327 hIH327 hJH327 e328 (by omega) (Nat.lt_succ_self _)
  exact L329 _ v325 H hI hJ ek1_1 (by omega) (Nat.lt_succ_self _)
set_option maxRecDepth 4000 in
set_option maxHeartbeats 4000000 in
/-- X1.isLate -/
theorem s_20 (b : Nat) (hb : zBo b) (a1 : Int32) (ha1 : 0 ≤ a1.toInt ∧ a1.toInt ≤ 59) (H : mzH) (hI : gI SX H) (hJ : JX H) : gCall 20 [.ref b, .int a1] H (gRi (fun v H' => H = H' ∧ (0 ≤ v.toInt ∧ v.toInt ≤ 1))) := by
  obtain ⟨hbr, hb0, hb1, hb2, hb3, hb4, hb5, hb6, hb7⟩ := id hb
  refine gG_call [(0, .ref b), (1, .int a1)] ⟨rfl, rfl, trivial⟩ ?_
  show gG 3 zB_20 (mzBlk zB_20 0) [(0, .ref b), (1, .int a1)] [] H 0 0 _
  refine g_iconst (by decide) (fun v161 kv161 => ?_)
  refine g_istore_n (l' := [(0, .ref b), (1, .int a1), (2, .int v161)]) rfl rfl ?_
  refine g_nop ?_
  have L163 : ∀ (N : Nat) (v162 : Int32), (0 ≤ v162.toInt ∧ v162.toInt ≤ 59) → (59 - v162.toInt).toNat < N → gG 3 zB_20 (mzBlk zB_20 1) [(0, .ref b), (1, .int a1), (2, .int v162)] [] H 0 0 (gRi (fun v H' => H = H' ∧ (0 ≤ v.toInt ∧ v.toInt ≤ 1))) := by
    intro N
    induction N with
    | zero => intro v162 bv162 hmL163; exact absurd hmL163 (Nat.not_lt_zero _)
    | succ N ihL163 =>
      intro v162 bv162 hmL163
      refine g_iload_n rfl ?_
      refine g_iload_n rfl ?_
      refine g_if2_ge (fun c164 => ?_) (fun c164 => ?_)
      · refine g_iconst (by decide) (fun v165 kv165 => ?_)
        exact g_zret (by omega) ⟨_, rfl, rfl, (by omega)⟩
      · refine g_iload_n rfl ?_
        refine g_aload_n rfl ?_
        refine g_gfi hI hb0 rfl (fun v166 ev166 lv166 uv166 => ?_)
        refine g_if2_ge (fun c167 => ?_) (fun c167 => ?_)
        · refine g_iconst (by decide) (fun v168 kv168 => ?_)
          exact g_zret (by omega) ⟨_, rfl, rfl, (by omega)⟩
        · refine g_aload_n rfl ?_
          refine g_gfr hI hb0 rfl ?_
          refine g_iload_n rfl ?_
          refine g_iaload hI hb3 rfl (by omega) (fun v169 ev169 lv169 uv169 => ?_)
          refine g_aload_n rfl ?_
          refine g_gfr hI hb0 rfl ?_
          refine g_iload_n rfl ?_
          refine g_iaload hI hb3 rfl (by omega) (fun v170 ev170 lv170 uv170 => ?_)
          refine g_if2_le (fun c171 => ?_) (fun c171 => ?_)
          · refine g_iinc (l' := (fun v172 => [(0, .ref b), (1, .int a1), (2, .int v172)])) rfl rfl (by decide) (by omega) (fun _ => rfl) (fun v172 ev172 => ?_)
            refine g_goto ?_
            exact ihL163 v172 (by omega) (by omega)
          · refine g_iconst (by decide) (fun v173 kv173 => ?_)
            exact g_zret (by omega) ⟨_, rfl, rfl, (by omega)⟩
  exact L163 _ v161 (by omega) (Nat.lt_succ_self _)
set_option maxRecDepth 4000 in
set_option maxHeartbeats 4000000 in
/-- X1.lateOnes -/
theorem s_21 (b : Nat) (hb : zBo b) (H : mzH) (hI : gI SX H) (hJ : JX H) : gCall 21 [.ref b] H (gRi (fun v H' => H = H')) := by
  obtain ⟨hbr, hb0, hb1, hb2, hb3, hb4, hb5, hb6, hb7⟩ := id hb
  refine gG_call [(0, .ref b)] ⟨rfl, trivial⟩ ?_
  show gG 3 zB_21 (mzBlk zB_21 0) [(0, .ref b)] [] H 0 0 _
  refine g_iconst (by decide) (fun v429 kv429 => ?_)
  refine g_istore_n (l' := [(0, .ref b), (1, .int v429)]) rfl rfl ?_
  refine g_iconst (by decide) (fun v430 kv430 => ?_)
  refine g_istore_n (l' := [(0, .ref b), (1, .int v429), (2, .int v430)]) rfl rfl ?_
  refine g_nop ?_
  have L433 : ∀ (N : Nat) (v431 : Int32) (v432 : Int32), (0 ≤ v432.toInt ∧ v432.toInt ≤ 60) → (60 - v432.toInt).toNat < N → gG 3 zB_21 (mzBlk zB_21 1) [(0, .ref b), (1, .int v431), (2, .int v432)] [] H 0 0 (gRi (fun v H' => H = H')) := by
    intro N
    induction N with
    | zero => intro v431 v432 bv432 hmL433; exact absurd hmL433 (Nat.not_lt_zero _)
    | succ N ihL433 =>
      intro v431 v432 bv432 hmL433
      refine g_iload_n rfl ?_
      refine g_aload_n rfl ?_
      refine g_gfi hI hb0 rfl (fun v434 ev434 lv434 uv434 => ?_)
      refine g_if2_ge (fun c435 => ?_) (fun c435 => ?_)
      · refine g_iload_n rfl ?_
        exact g_iret ⟨_, rfl, rfl⟩
      · refine g_iload_n rfl ?_
        refine g_aload_n rfl ?_
        refine g_iload_n rfl ?_
        refine g_invvi hI hb0 rfl rfl rfl rfl (s_20 b hb v432 (by omega) H hI hJ) (fun v438 H436 r437 => ?_)
        obtain ⟨rfl, bv438⟩ := r437
        refine g_if_eq (fun c439 => ?_) (fun c439 => ?_)
        · refine g_iconst (by decide) (fun v440 kv440 => ?_)
          refine g_nop ?_
          refine g_iadd (by have := gz_any v431; omega) (fun v441 ev441 => ?_)
          refine g_istore_n (l' := [(0, .ref b), (1, .int v441), (2, .int v432)]) rfl rfl ?_
          refine g_iinc (l' := (fun v442 => [(0, .ref b), (1, .int v441), (2, .int v442)])) rfl rfl (by decide) (by omega) (fun _ => rfl) (fun v442 ev442 => ?_)
          refine g_goto ?_
          exact ihL433 v441 v442 (by omega) (by omega)
        · refine g_iconst (by decide) (fun v443 kv443 => ?_)
          refine g_goto ?_
          refine g_iadd' (fun v444 _ => ?_)
          refine g_istore_n (l' := [(0, .ref b), (1, .int v444), (2, .int v432)]) rfl rfl ?_
          refine g_iinc (l' := (fun v445 => [(0, .ref b), (1, .int v444), (2, .int v445)])) rfl rfl (by decide) (by omega) (fun _ => rfl) (fun v445 ev445 => ?_)
          refine g_goto ?_
          exact ihL433 v444 v445 (by omega) (by omega)
  exact L433 _ v429 v430 (by omega) (Nat.lt_succ_self _)
set_option maxRecDepth 4000 in
set_option maxHeartbeats 4000000 in
/-- X1.latestHour -/
theorem s_22 (b : Nat) (hb : zBo b) (H : mzH) (hI : gI SX H) (hJ : JX H) : gCall 22 [.ref b] H (gRi (fun v H' => H = H')) := by
  obtain ⟨hbr, hb0, hb1, hb2, hb3, hb4, hb5, hb6, hb7⟩ := id hb
  refine gG_call [(0, .ref b)] ⟨rfl, trivial⟩ ?_
  show gG 3 zB_22 (mzBlk zB_22 0) [(0, .ref b)] [] H 0 0 _
  refine g_iconst (by decide) (fun v107 kv107 => ?_)
  refine g_istore_n (l' := [(0, .ref b), (1, .int v107)]) rfl rfl ?_
  refine g_iconst (by decide) (fun v108 kv108 => ?_)
  refine g_istore_n (l' := [(0, .ref b), (1, .int v107), (2, .int v108)]) rfl rfl ?_
  refine g_nop ?_
  have L111 : ∀ (N : Nat) (v109 : Int32) (v110 : Int32), (0 ≤ v109.toInt ∧ v109.toInt ≤ 2147483647) → (0 ≤ v110.toInt ∧ v110.toInt ≤ 60) → (60 - v110.toInt).toNat < N → gG 3 zB_22 (mzBlk zB_22 1) [(0, .ref b), (1, .int v109), (2, .int v110)] [] H 0 0 (gRi (fun v H' => H = H')) := by
    intro N
    induction N with
    | zero => intro v109 v110 bv109 bv110 hmL111; exact absurd hmL111 (Nat.not_lt_zero _)
    | succ N ihL111 =>
      intro v109 v110 bv109 bv110 hmL111
      refine g_iload_n rfl ?_
      refine g_aload_n rfl ?_
      refine g_gfi hI hb0 rfl (fun v112 ev112 lv112 uv112 => ?_)
      refine g_if2_ge (fun c113 => ?_) (fun c113 => ?_)
      · refine g_iload_n rfl ?_
        exact g_iret ⟨_, rfl, rfl⟩
      · refine g_iload_n rfl ?_
        refine g_aload_n rfl ?_
        refine g_gfr hI hb0 rfl ?_
        refine g_iload_n rfl ?_
        refine g_iaload hI hb3 rfl (by omega) (fun v114 ev114 lv114 uv114 => ?_)
        refine g_max rfl (fun v115 av115 bv115 dv115 => ?_)
        refine g_istore_n (l' := [(0, .ref b), (1, .int v115), (2, .int v110)]) rfl rfl ?_
        refine g_iinc (l' := (fun v116 => [(0, .ref b), (1, .int v115), (2, .int v116)])) rfl rfl (by decide) (by omega) (fun _ => rfl) (fun v116 ev116 => ?_)
        refine g_goto ?_
        exact ihL111 v115 v116 (by have := gz_any v115; omega) (by omega) (by omega)
  exact L111 _ v107 v108 (by have := gz_any v107; omega) (by omega) (Nat.lt_succ_self _)
set_option maxRecDepth 4000 in
set_option maxHeartbeats 4000000 in
/-- X2.takeHours -/
theorem s_24 (c : Nat) (hc : zCo c) (b : Nat) (hb : zBo b) (H : mzH) (hI : gI SX H) (hJ : JX H) : gCall 24 [.ref c, .ref b] H (gRv (fun H' => gI SX H' ∧ JX H' ∧ fZ H' 1 1 = fZ H 1 1)) := by
  obtain ⟨hcr, hc0, hc1, hc2⟩ := id hc
  obtain ⟨hbr, hb0, hb1, hb2, hb3, hb4, hb5, hb6, hb7⟩ := id hb
  obtain ⟨k1_1, ek1_1⟩ : ∃ z, z = fZ H 1 1 := ⟨_, rfl⟩
  have ik1_1 : k1_1.toInt = (fZ H 1 1).toInt := by rw [← ek1_1]
  have bk1_1 : 0 ≤ k1_1.toInt ∧ k1_1.toInt ≤ 900 := by rw [ek1_1]; exact fZ_of hI sx_1 rfl
  refine gG_call [(0, .ref c), (1, .ref b)] ⟨rfl, rfl, trivial⟩ ?_
  show gG 2 zB_24 (mzBlk zB_24 0) [(0, .ref c), (1, .ref b)] [] H 0 0 _
  refine g_aload_n rfl ?_
  refine g_aload_n rfl ?_
  refine g_gfi hI hb0 rfl (fun v33 ev33 lv33 uv33 => ?_)
  refine g_pfi hI hc0 rfl (by omega) (fun H34 eH34 hIH34 => ?_)
  have hJH34 : JX H34 := JX_sF eH34 hJ
  have e35 : k1_1 = fZ H34 1 1 := by rw [eH34, fZ_sF_nc (by omega)]; exact ek1_1
  refine g_aload_n rfl ?_
  refine g_gfr hIH34 hb0 rfl ?_
  refine g_iconst (by decide) (fun v36 kv36 => ?_)
  refine g_aload_n rfl ?_
  refine g_gfr hIH34 hc0 rfl ?_
  refine g_iconst (by decide) (fun v37 kv37 => ?_)
  refine g_bipush (by decide) (fun v38 kv38 => ?_)
  refine g_acp hIH34 hc1 hb3 (by decide) (by decide) (by omega) (by omega) (by omega) rfl (fun H39 eH39 hIH39 => ?_)
  have hJH39 : JX H39 := JX_sC (by omega) eH39 hJH34
  have e40 : k1_1 = fZ H39 1 1 := by rw [eH39, fZ_sC hIH34 hc1 hb3]; exact e35
  exact g_ret ⟨rfl, hIH39, hJH39, (e40.symm.trans ek1_1)⟩
set_option maxRecDepth 4000 in
set_option maxHeartbeats 4000000 in
/-- X2.arrange -/
theorem s_25 (c : Nat) (hc : zCo c) (H : mzH) (hI : gI SX H) (hJ : JX H) : gCall 25 [.ref c] H (gRv (fun H' => gI SX H' ∧ JX H' ∧ fZ H' 1 1 = fZ H 1 1)) := by
  obtain ⟨hcr, hc0, hc1, hc2⟩ := id hc
  obtain ⟨k1_1, ek1_1⟩ : ∃ z, z = fZ H 1 1 := ⟨_, rfl⟩
  have ik1_1 : k1_1.toInt = (fZ H 1 1).toInt := by rw [← ek1_1]
  have bk1_1 : 0 ≤ k1_1.toInt ∧ k1_1.toInt ≤ 900 := by rw [ek1_1]; exact fZ_of hI sx_1 rfl
  refine gG_call [(0, .ref c)] ⟨rfl, trivial⟩ ?_
  show gG 3 zB_25 (mzBlk zB_25 0) [(0, .ref c)] [] H 0 0 _
  refine g_iconst (by decide) (fun v268 kv268 => ?_)
  refine g_istore_n (l' := [(0, .ref c), (1, .int v268)]) rfl rfl ?_
  refine g_nop ?_
  have L272 : ∀ (N : Nat) (v269 : Int32) (H270 : mzH), gI SX H270 → JX H270 → k1_1 = fZ H270 1 1 → (0 ≤ v269.toInt ∧ v269.toInt ≤ 60) → (60 - v269.toInt).toNat < N → gG 3 zB_25 (mzBlk zB_25 1) [(0, .ref c), (1, .int v269)] [] H270 0 0 (gRv (fun H' => gI SX H' ∧ JX H' ∧ fZ H' 1 1 = fZ H 1 1)) := by
    intro N
    induction N with
    | zero => intro v269 H270 hIH270 hJH270 e271 bv269 hmL272; exact absurd hmL272 (Nat.not_lt_zero _)
    | succ N ihL272 =>
      intro v269 H270 hIH270 hJH270 e271 bv269 hmL272
      refine g_iload_n rfl ?_
      refine g_aload_n rfl ?_
      refine g_gfi hIH270 hc0 rfl (fun v273 ev273 lv273 uv273 => ?_)
      refine g_if2_ge (fun c274 => ?_) (fun c274 => ?_)
      · exact g_ret ⟨rfl, hIH270, hJH270, (e271.symm.trans ek1_1)⟩
      · refine g_iload_n rfl ?_
        refine g_istore_n (l' := [(0, .ref c), (1, .int v269), (2, .int v269)]) rfl rfl ?_
        refine g_nop ?_
        have L278 : ∀ (N : Nat) (v275 : Int32) (H276 : mzH), gI SX H276 → JX H276 → k1_1 = fZ H276 1 1 → (0 ≤ v275.toInt ∧ v275.toInt ≤ 59) → (v275.toInt - (0)).toNat < N → gG 3 zB_25 (mzBlk zB_25 2) [(0, .ref c), (1, .int v269), (2, .int v275)] [] H276 0 0 (gRv (fun H' => gI SX H' ∧ JX H' ∧ fZ H' 1 1 = fZ H 1 1)) := by
          intro N
          induction N with
          | zero => intro v275 H276 hIH276 hJH276 e277 bv275 hmL278; exact absurd hmL278 (Nat.not_lt_zero _)
          | succ N ihL278 =>
            intro v275 H276 hIH276 hJH276 e277 bv275 hmL278
            refine g_iload_n rfl ?_
            refine g_if_le (fun c279 => ?_) (fun c279 => ?_)
            · refine g_aload_n rfl ?_
              refine g_gfr hIH276 hc0 rfl ?_
              refine g_iload_n rfl ?_
              refine g_iload_n rfl ?_
              refine g_iastore hIH276 hc2 (by omega) (by omega) (fun H280 eH280 hIH280 => ?_)
              have hJH280 : JX H280 := JX_sA (by omega) eH280 hJH276
              have e281 : k1_1 = fZ H280 1 1 := by rw [eH280, fZ_sA]; exact e277
              refine g_iinc (l' := (fun v282 => [(0, .ref c), (1, .int v282), (2, .int v275)])) rfl rfl (by decide) (by omega) (fun _ => rfl) (fun v282 ev282 => ?_)
              refine g_goto ?_
              refine gG_pick [0, 1] (l' := [(0, .ref c), (1, .int v282)]) rfl ?_
              exact ihL272 v282 H280 hIH280 hJH280 e281 (by omega) (by omega)
            · refine g_aload_n rfl ?_
              refine g_gfr hIH276 hc0 rfl ?_
              refine g_aload_n rfl ?_
              refine g_gfr hIH276 hc0 rfl ?_
              refine g_iload_n rfl ?_
              refine g_iconst (by decide) (fun v283 kv283 => ?_)
              refine g_isub (by omega) (fun v284 ev284 => ?_)
              refine g_iaload hIH276 hc2 rfl (by omega) (fun v285 ev285 lv285 uv285 => ?_)
              refine g_iaload hIH276 hc1 rfl (by omega) (fun v286 ev286 lv286 uv286 => ?_)
              refine g_aload_n rfl ?_
              refine g_gfr hIH276 hc0 rfl ?_
              refine g_iload_n rfl ?_
              refine g_iaload hIH276 hc1 rfl (by omega) (fun v287 ev287 lv287 uv287 => ?_)
              refine g_if2_le (fun c288 => ?_) (fun c288 => ?_)
              · refine g_aload_n rfl ?_
                refine g_gfr hIH276 hc0 rfl ?_
                refine g_iload_n rfl ?_
                refine g_iload_n rfl ?_
                refine g_iastore hIH276 hc2 (by omega) (by omega) (fun H289 eH289 hIH289 => ?_)
                have hJH289 : JX H289 := JX_sA (by omega) eH289 hJH276
                have e290 : k1_1 = fZ H289 1 1 := by rw [eH289, fZ_sA]; exact e277
                refine g_iinc (l' := (fun v291 => [(0, .ref c), (1, .int v291), (2, .int v275)])) rfl rfl (by decide) (by omega) (fun _ => rfl) (fun v291 ev291 => ?_)
                refine g_goto ?_
                refine gG_pick [0, 1] (l' := [(0, .ref c), (1, .int v291)]) rfl ?_
                exact ihL272 v291 H289 hIH289 hJH289 e290 (by omega) (by omega)
              · refine g_aload_n rfl ?_
                refine g_gfr hIH276 hc0 rfl ?_
                refine g_iload_n rfl ?_
                refine g_aload_n rfl ?_
                refine g_gfr hIH276 hc0 rfl ?_
                refine g_iload_n rfl ?_
                refine g_iconst (by decide) (fun v292 kv292 => ?_)
                refine g_isub (by omega) (fun v293 ev293 => ?_)
                refine g_iaload hIH276 hc2 rfl (by omega) (fun v294 ev294 lv294 uv294 => ?_)
                refine g_iastore hIH276 hc2 (by omega) (by omega) (fun H295 eH295 hIH295 => ?_)
                have hJH295 : JX H295 := JX_sA (by omega) eH295 hJH276
                have e296 : k1_1 = fZ H295 1 1 := by rw [eH295, fZ_sA]; exact e277
                refine g_iinc (l' := (fun v297 => [(0, .ref c), (1, .int v269), (2, .int v297)])) rfl rfl (by decide) (by omega) (fun _ => rfl) (fun v297 ev297 => ?_)
                refine g_goto ?_
                exact ihL278 v297 H295 hIH295 hJH295 e296 (by omega) (by omega)
        exact L278 _ v269 H270 hIH270 hJH270 e271 (by omega) (Nat.lt_succ_self _)
  exact L272 _ v268 H hI hJ ek1_1 (by omega) (Nat.lt_succ_self _)
set_option maxRecDepth 4000 in
set_option maxHeartbeats 4000000 in
/-- X2.spotOf -/
theorem s_26 (c : Nat) (hc : zCo c) (a1 : Int32) (H : mzH) (hI : gI SX H) (hJ : JX H) : gCall 26 [.ref c, .int a1] H (gRi (fun v H' => H = H' ∧ (-1 ≤ v.toInt ∧ v.toInt ≤ 59))) := by
  obtain ⟨hcr, hc0, hc1, hc2⟩ := id hc
  refine gG_call [(0, .ref c), (1, .int a1)] ⟨rfl, rfl, trivial⟩ ?_
  show gG 3 zB_26 (mzBlk zB_26 0) [(0, .ref c), (1, .int a1)] [] H 0 0 _
  refine g_iconst (by decide) (fun v117 kv117 => ?_)
  refine g_istore_n (l' := [(0, .ref c), (1, .int a1), (2, .int v117)]) rfl rfl ?_
  refine g_nop ?_
  have L119 : ∀ (N : Nat) (v118 : Int32), (0 ≤ v118.toInt ∧ v118.toInt ≤ 60) → (60 - v118.toInt).toNat < N → gG 3 zB_26 (mzBlk zB_26 1) [(0, .ref c), (1, .int a1), (2, .int v118)] [] H 0 0 (gRi (fun v H' => H = H' ∧ (-1 ≤ v.toInt ∧ v.toInt ≤ 59))) := by
    intro N
    induction N with
    | zero => intro v118 bv118 hmL119; exact absurd hmL119 (Nat.not_lt_zero _)
    | succ N ihL119 =>
      intro v118 bv118 hmL119
      refine g_iload_n rfl ?_
      refine g_aload_n rfl ?_
      refine g_gfi hI hc0 rfl (fun v120 ev120 lv120 uv120 => ?_)
      refine g_if2_ge (fun c121 => ?_) (fun c121 => ?_)
      · refine g_iconst (by decide) (fun v122 kv122 => ?_)
        exact g_iret ⟨_, rfl, rfl, (by omega)⟩
      · refine g_aload_n rfl ?_
        refine g_gfr hI hc0 rfl ?_
        refine g_iload_n rfl ?_
        refine g_iaload hI hc2 rfl (by omega) (fun v123 ev123 lv123 uv123 => ?_)
        refine g_iload_n rfl ?_
        refine g_if2_ne (fun c124 => ?_) (fun c124 => ?_)
        · refine g_iinc (l' := (fun v125 => [(0, .ref c), (1, .int a1), (2, .int v125)])) rfl rfl (by decide) (by omega) (fun _ => rfl) (fun v125 ev125 => ?_)
          refine g_goto ?_
          exact ihL119 v125 (by omega) (by omega)
        · refine g_iload_n rfl ?_
          exact g_iret ⟨_, rfl, rfl, (by omega)⟩
  exact L119 _ v117 (by omega) (Nat.lt_succ_self _)
set_option maxRecDepth 4000 in
set_option maxHeartbeats 4000000 in
/-- X3.lastVerdictWithout -/
theorem s_30 (a1 : Int32) (a2 : Int32) (H : mzH) (hI : gI SX H) (hJ : JX H) : gCall 30 [.ref 43, .int a1, .int a2] H (gRi (fun v H' => gI SX H' ∧ JX H' ∧ fZ H' 1 1 = fZ H 1 1)) := by
  obtain ⟨k1_1, ek1_1⟩ : ∃ z, z = fZ H 1 1 := ⟨_, rfl⟩
  have ik1_1 : k1_1.toInt = (fZ H 1 1).toInt := by rw [← ek1_1]
  have bk1_1 : 0 ≤ k1_1.toInt ∧ k1_1.toInt ≤ 900 := by rw [ek1_1]; exact fZ_of hI sx_1 rfl
  refine gG_call [(0, .ref 43), (1, .int a1), (2, .int a2)] ⟨rfl, rfl, rfl, trivial⟩ ?_
  show gG 6 zB_30 (mzBlk zB_30 0) [(0, .ref 43), (1, .int a1), (2, .int a2)] [] H 0 0 _
  refine g_aload_n rfl ?_
  refine g_gfr hI sx_43 rfl ?_
  refine g_invvv hI sx_44 rfl rfl rfl rfl (s_83 44 zWo_44 H hI hJ) (fun H249 r250 => ?_)
  obtain ⟨hIH249, hJH249, w251⟩ := r250
  have e252 : k1_1 = fZ H249 1 1 := ek1_1.trans w251.symm
  refine g_iconst (by decide) (fun v253 kv253 => ?_)
  refine g_istore_n (l' := [(0, .ref 43), (1, .int a1), (2, .int a2), (3, .int v253)]) rfl rfl ?_
  refine g_iconst (by decide) (fun v254 kv254 => ?_)
  refine g_istore (l' := [(0, .ref 43), (1, .int a1), (2, .int a2), (3, .int v253), (4, .int v254)]) rfl rfl ?_
  refine g_nop ?_
  have L259 : ∀ (N : Nat) (v255 : Int32) (v256 : Int32) (H257 : mzH), gI SX H257 → JX H257 → k1_1 = fZ H257 1 1 → (0 ≤ v256.toInt ∧ v256.toInt ≤ 60) → (60 - v256.toInt).toNat < N → gG 6 zB_30 (mzBlk zB_30 1) [(0, .ref 43), (1, .int a1), (2, .int a2), (3, .int v255), (4, .int v256)] [] H257 0 0 (gRi (fun v H' => gI SX H' ∧ JX H' ∧ fZ H' 1 1 = fZ H 1 1)) := by
    intro N
    induction N with
    | zero => intro v255 v256 H257 hIH257 hJH257 e258 bv256 hmL259; exact absurd hmL259 (Nat.not_lt_zero _)
    | succ N ihL259 =>
      intro v255 v256 H257 hIH257 hJH257 e258 bv256 hmL259
      refine g_iload rfl ?_
      refine g_iload_n rfl ?_
      refine g_if2_gt (fun c260 => ?_) (fun c260 => ?_)
      · refine g_iload_n rfl ?_
        exact g_iret ⟨_, rfl, hIH257, hJH257, (e258.symm.trans ek1_1)⟩
      · refine g_iload rfl ?_
        refine g_aload_n rfl ?_
        refine g_gfr hIH257 sx_43 rfl ?_
        refine g_gfr hIH257 sx_24 rfl ?_
        refine g_gfi hIH257 sx_25 rfl (fun v261 ev261 lv261 uv261 => ?_)
        refine g_if2_ge (fun c262 => ?_) (fun c262 => ?_)
        · refine g_iload_n rfl ?_
          exact g_iret ⟨_, rfl, hIH257, hJH257, (e258.symm.trans ek1_1)⟩
        · refine g_aload_n rfl ?_
          refine g_gfr hIH257 sx_43 rfl ?_
          refine g_gfr hIH257 sx_24 rfl ?_
          refine g_gfr hIH257 sx_25 rfl ?_
          refine g_iload rfl ?_
          refine g_iaload hIH257 sx_27 rfl (by omega) (fun v263 ev263 lv263 uv263 => ?_)
          refine g_istore (l' := [(0, .ref 43), (1, .int a1), (2, .int a2), (3, .int v255), (4, .int v256), (5, .int v263)]) rfl rfl ?_
          refine g_iload rfl ?_
          refine g_iload_n rfl ?_
          refine g_if2_eq (fun c264 => ?_) (fun c264 => ?_)
          · refine g_iinc (l' := (fun v265 => [(0, .ref 43), (1, .int a1), (2, .int a2), (3, .int v255), (4, .int v265), (5, .int v263)])) rfl rfl (by decide) (by omega) (fun _ => rfl) (fun v265 ev265 => ?_)
            refine g_goto ?_
            refine gG_pick [0, 1, 2, 3, 4] (l' := [(0, .ref 43), (1, .int a1), (2, .int a2), (3, .int v255), (4, .int v265)]) rfl ?_
            exact ihL259 v255 v265 H257 hIH257 hJH257 e258 (by omega) (by omega)
          · refine g_aload_n rfl ?_
            refine g_gfr hIH257 sx_43 rfl ?_
            refine g_aload_n rfl ?_
            refine g_gfr hIH257 sx_43 rfl ?_
            refine g_iload rfl ?_
            refine g_aload_n rfl ?_
            refine g_gfr hIH257 sx_43 rfl ?_
            refine g_gfr hIH257 sx_3 rfl ?_
            refine g_iload rfl ?_
            refine g_iaload hIH257 sx_6 rfl (by omega) (fun v266 ev266 lv266 uv266 => ?_)
            refine g_invvi hIH257 sx_44 rfl rfl rfl rfl (s_93 44 zWo_44 3 zBo_3 v263 (by omega) v266 H257 hIH257 hJH257) (fun v269 H267 r268 => ?_)
            obtain ⟨hIH267, hJH267, w270⟩ := r268
            have e271 : k1_1 = fZ H267 1 1 := e258.trans w270.symm
            refine g_istore_n (l' := [(0, .ref 43), (1, .int a1), (2, .int a2), (3, .int v269), (4, .int v256), (5, .int v263)]) rfl rfl ?_
            refine g_nop ?_
            refine g_iinc (l' := (fun v272 => [(0, .ref 43), (1, .int a1), (2, .int a2), (3, .int v269), (4, .int v272), (5, .int v263)])) rfl rfl (by decide) (by omega) (fun _ => rfl) (fun v272 ev272 => ?_)
            refine g_goto ?_
            refine gG_pick [0, 1, 2, 3, 4] (l' := [(0, .ref 43), (1, .int a1), (2, .int a2), (3, .int v269), (4, .int v272)]) rfl ?_
            exact ihL259 v269 v272 H267 hIH267 hJH267 e271 (by omega) (by omega)
  exact L259 _ v253 v254 H249 hIH249 hJH249 e252 (by omega) (Nat.lt_succ_self _)
set_option maxRecDepth 4000 in
set_option maxHeartbeats 4000000 in
/-- X8.whereIs -/
theorem s_91 (w : Nat) (hw : zWo w) (a1 : Int32) (ha1 : 0 ≤ a1.toInt ∧ a1.toInt ≤ 39) (H : mzH) (hI : gI SX H) (hJ : JX H) : gCall 91 [.ref w, .int a1] H (gRi (fun v H' => H = H')) := by
  obtain ⟨hwr, hw0, hw1, hw2, hw3, hw4, hw5, hw6⟩ := id hw
  refine gG_call [(0, .ref w), (1, .int a1)] ⟨rfl, rfl, trivial⟩ ?_
  show gG 3 zB_91 (mzBlk zB_91 0) [(0, .ref w), (1, .int a1)] [] H 0 0 _
  refine g_aload_n rfl ?_
  refine g_iload_n rfl ?_
  refine g_invvi hI hw0 rfl rfl rfl rfl (s_88 w hw a1 (by omega) H hI hJ) (fun v87 H85 r86 => ?_)
  obtain ⟨rfl, bv87⟩ := r86
  refine g_if_ne (fun c88 => ?_) (fun c88 => ?_)
  · refine g_aload_n rfl ?_
    refine g_iload_n rfl ?_
    refine g_iconst (by decide) (fun v89 kv89 => ?_)
    refine g_invvi hI hw0 rfl rfl rfl rfl (s_85 w hw a1 (by omega) v89 H hI hJ) (fun v92 H90 r91 => ?_)
    obtain ⟨rfl, bv92⟩ := r91
    refine g_if_eq (fun c93 => ?_) (fun c93 => ?_)
    · refine g_aload_n rfl ?_
      refine g_iload_n rfl ?_
      refine g_invvi hI hw0 rfl rfl rfl rfl (s_89 w hw a1 (by omega) H hI hJ) (fun v96 H94 r95 => ?_)
      obtain ⟨rfl, bv96⟩ := r95
      refine g_istore_n (l' := [(0, .ref w), (1, .int a1), (2, .int v96)]) rfl rfl ?_
      refine g_aload_n rfl ?_
      refine g_iload_n rfl ?_
      refine g_iconst (by decide) (fun v97 kv97 => ?_)
      refine g_invvi hI hw0 rfl rfl rfl rfl (s_85 w hw v96 (by omega) v97 H hI hJ) (fun v100 H98 r99 => ?_)
      obtain ⟨rfl, bv100⟩ := r99
      refine g_if_eq (fun c101 => ?_) (fun c101 => ?_)
      · refine g_aload_n rfl ?_
        refine g_gfr hI hw0 rfl ?_
        refine g_iload_n rfl ?_
        refine g_iaload hI hw3 rfl (by omega) (fun v102 ev102 lv102 uv102 => ?_)
        refine g_nop ?_
        exact g_iret ⟨_, rfl, rfl⟩
      · refine g_bipush (by decide) (fun v103 kv103 => ?_)
        refine g_goto ?_
        exact g_iret ⟨_, rfl, rfl⟩
    · refine g_bipush (by decide) (fun v104 kv104 => ?_)
      exact g_iret ⟨_, rfl, rfl⟩
  · refine g_bipush (by decide) (fun v105 kv105 => ?_)
    exact g_iret ⟨_, rfl, rfl⟩
set_option maxRecDepth 4000 in
set_option maxHeartbeats 4000000 in
/-- X3.placeWithout -/
theorem s_29 (a1 : Int32) (a2 : Int32) (ha2 : 0 ≤ a2.toInt ∧ a2.toInt ≤ 39) (H : mzH) (hI : gI SX H) (hJ : JX H) : gCall 29 [.ref 43, .int a1, .int a2] H (gRi (fun v H' => gI SX H' ∧ JX H' ∧ fZ H' 1 1 = fZ H 1 1)) := by
  obtain ⟨k1_1, ek1_1⟩ : ∃ z, z = fZ H 1 1 := ⟨_, rfl⟩
  have ik1_1 : k1_1.toInt = (fZ H 1 1).toInt := by rw [← ek1_1]
  have bk1_1 : 0 ≤ k1_1.toInt ∧ k1_1.toInt ≤ 900 := by rw [ek1_1]; exact fZ_of hI sx_1 rfl
  refine gG_call [(0, .ref 43), (1, .int a1), (2, .int a2)] ⟨rfl, rfl, rfl, trivial⟩ ?_
  show gG 3 zB_29 (mzBlk zB_29 0) [(0, .ref 43), (1, .int a1), (2, .int a2)] [] H 0 0 _
  refine g_aload_n rfl ?_
  refine g_iload_n rfl ?_
  refine g_aload_n rfl ?_
  refine g_gfr hI sx_43 rfl ?_
  refine g_gfr hI sx_24 rfl ?_
  refine g_gfi hI sx_25 rfl (fun v45 ev45 lv45 uv45 => ?_)
  refine g_iconst (by decide) (fun v46 kv46 => ?_)
  refine g_isub (by omega) (fun v47 ev47 => ?_)
  refine g_invvi hI sx_43 rfl rfl rfl rfl (s_30 a1 v47 H hI hJ) (fun v50 H48 r49 => ?_)
  obtain ⟨hIH48, hJH48, w51⟩ := r49
  have e52 : k1_1 = fZ H48 1 1 := ek1_1.trans w51.symm
  refine g_pop rfl ?_
  refine g_aload_n rfl ?_
  refine g_gfr hIH48 sx_43 rfl ?_
  refine g_iload_n rfl ?_
  refine g_invvi hIH48 sx_44 rfl rfl rfl rfl (s_91 44 zWo_44 a2 (by omega) H48 hIH48 hJH48) (fun v55 H53 r54 => ?_)
  obtain rfl := r54
  exact g_iret ⟨_, rfl, hIH48, hJH48, (e52.symm.trans ek1_1)⟩
set_option maxRecDepth 4000 in
set_option maxHeartbeats 4000000 in
/-- X3.deciding -/
theorem s_31 (a1 : Int32) (ha1 : 0 ≤ a1.toInt ∧ a1.toInt ≤ 59) (H : mzH) (hI : gI SX H) (hJ : JX H) : gCall 31 [.ref 43, .int a1] H (gRl (fun _ H' => gI SX H' ∧ JX H' ∧ fZ H' 1 1 = fZ H 1 1)) := by
  obtain ⟨k1_1, ek1_1⟩ : ∃ z, z = fZ H 1 1 := ⟨_, rfl⟩
  have ik1_1 : k1_1.toInt = (fZ H 1 1).toInt := by rw [← ek1_1]
  have bk1_1 : 0 ≤ k1_1.toInt ∧ k1_1.toInt ≤ 900 := by rw [ek1_1]; exact fZ_of hI sx_1 rfl
  refine gG_call [(0, .ref 43), (1, .int a1)] ⟨rfl, rfl, trivial⟩ ?_
  show gG 8 zB_31 (mzBlk zB_31 0) [(0, .ref 43), (1, .int a1)] [] H 0 0 _
  refine g_lconst (fun v476 _ => ?_)
  refine g_lstore_n (l' := [(0, .ref 43), (1, .int a1), (2, .long v476)]) rfl rfl ?_
  refine g_aload_n rfl ?_
  refine g_gfr hI sx_43 rfl ?_
  refine g_gfr hI sx_24 rfl ?_
  refine g_iload_n rfl ?_
  refine g_invvi hI sx_25 rfl rfl rfl rfl (s_26 25 zCo_25 a1 H hI hJ) (fun v479 H477 r478 => ?_)
  obtain ⟨rfl, bv479⟩ := r478
  refine g_istore (l' := [(0, .ref 43), (1, .int a1), (2, .long v476), (4, .int v479)]) rfl rfl ?_
  refine g_iconst (by decide) (fun v480 kv480 => ?_)
  refine g_istore (l' := [(0, .ref 43), (1, .int a1), (2, .long v476), (4, .int v479), (5, .int v480)]) rfl rfl ?_
  refine g_nop ?_
  have L485 : ∀ (N : Nat) (v481 : Int64) (v482 : Int32) (H483 : mzH), gI SX H483 → JX H483 → k1_1 = fZ H483 1 1 → (0 ≤ v482.toInt ∧ v482.toInt ≤ 59) → (59 - v482.toInt).toNat < N → gG 8 zB_31 (mzBlk zB_31 1) [(0, .ref 43), (1, .int a1), (2, .long v481), (4, .int v479), (5, .int v482)] [] H483 0 0 (gRl (fun _ H' => gI SX H' ∧ JX H' ∧ fZ H' 1 1 = fZ H 1 1)) := by
    intro N
    induction N with
    | zero => intro v481 v482 H483 hIH483 hJH483 e484 bv482 hmL485; exact absurd hmL485 (Nat.not_lt_zero _)
    | succ N ihL485 =>
      intro v481 v482 H483 hIH483 hJH483 e484 bv482 hmL485
      refine g_iload rfl ?_
      refine g_iload rfl ?_
      refine g_if2_ge (fun c486 => ?_) (fun c486 => ?_)
      · refine g_lload_n rfl ?_
        exact g_lret ⟨_, rfl, hIH483, hJH483, (e484.symm.trans ek1_1)⟩
      · refine g_aload_n rfl ?_
        refine g_gfr hIH483 sx_43 rfl ?_
        refine g_gfr hIH483 sx_24 rfl ?_
        refine g_gfr hIH483 sx_25 rfl ?_
        refine g_iload rfl ?_
        refine g_iaload hIH483 sx_27 rfl (by omega) (fun v487 ev487 lv487 uv487 => ?_)
        refine g_istore (l' := [(0, .ref 43), (1, .int a1), (2, .long v481), (4, .int v479), (5, .int v482), (6, .int v487)]) rfl rfl ?_
        refine g_aload_n rfl ?_
        refine g_iload rfl ?_
        refine g_iload rfl ?_
        refine g_invvi hIH483 sx_43 rfl rfl rfl rfl (s_30 v487 v479 H483 hIH483 hJH483) (fun v490 H488 r489 => ?_)
        obtain ⟨hIH488, hJH488, w491⟩ := r489
        have e492 : k1_1 = fZ H488 1 1 := e484.trans w491.symm
        refine g_if_ne (fun c493 => ?_) (fun c493 => ?_)
        · refine g_iconst (by decide) (fun v494 kv494 => ?_)
          refine g_nop ?_
          refine g_istore (l' := [(0, .ref 43), (1, .int a1), (2, .long v481), (4, .int v479), (5, .int v482), (6, .int v487), (7, .int v494)]) rfl rfl ?_
          refine g_iload rfl ?_
          refine g_aload_n rfl ?_
          refine g_gfr hIH488 sx_43 rfl ?_
          refine g_gfr hIH488 sx_24 rfl ?_
          refine g_iload_n rfl ?_
          refine g_iaload hIH488 sx_42 rfl (by omega) (fun v495 ev495 lv495 uv495 => ?_)
          refine g_if_ne (fun c496 => ?_) (fun c496 => ?_)
          · refine g_iconst (by decide) (fun v497 kv497 => ?_)
            refine g_nop ?_
            refine g_if2_eq (fun c498 => ?_) (fun c498 => ?_)
            · refine g_iinc (l' := (fun v499 => [(0, .ref 43), (1, .int a1), (2, .long v481), (4, .int v479), (5, .int v499), (6, .int v487), (7, .int v494)])) rfl rfl (by decide) (by omega) (fun _ => rfl) (fun v499 ev499 => ?_)
              refine g_goto ?_
              refine gG_pick [0, 1, 2, 4, 5] (l' := [(0, .ref 43), (1, .int a1), (2, .long v481), (4, .int v479), (5, .int v499)]) rfl ?_
              exact ihL485 v481 v499 H488 hIH488 hJH488 e492 (by omega) (by omega)
            · exfalso; omega
          · refine g_iconst (by decide) (fun v500 kv500 => ?_)
            refine g_goto ?_
            refine g_if2_eq (fun c501 => ?_) (fun c501 => ?_)
            · exfalso; omega
            · refine g_lload_n rfl ?_
              refine g_lconst (fun v502 _ => ?_)
              refine g_iload rfl ?_
              refine g_lshl (fun v503 _ => ?_)
              refine g_lor (fun v504 _ => ?_)
              refine g_lstore_n (l' := [(0, .ref 43), (1, .int a1), (2, .long v504), (4, .int v479), (5, .int v482), (6, .int v487), (7, .int v494)]) rfl rfl ?_
              refine g_nop ?_
              refine g_iinc (l' := (fun v505 => [(0, .ref 43), (1, .int a1), (2, .long v504), (4, .int v479), (5, .int v505), (6, .int v487), (7, .int v494)])) rfl rfl (by decide) (by omega) (fun _ => rfl) (fun v505 ev505 => ?_)
              refine g_goto ?_
              refine gG_pick [0, 1, 2, 4, 5] (l' := [(0, .ref 43), (1, .int a1), (2, .long v504), (4, .int v479), (5, .int v505)]) rfl ?_
              exact ihL485 v504 v505 H488 hIH488 hJH488 e492 (by omega) (by omega)
        · refine g_iconst (by decide) (fun v506 kv506 => ?_)
          refine g_goto ?_
          refine g_istore (l' := [(0, .ref 43), (1, .int a1), (2, .long v481), (4, .int v479), (5, .int v482), (6, .int v487), (7, .int v506)]) rfl rfl ?_
          refine g_iload rfl ?_
          refine g_aload_n rfl ?_
          refine g_gfr hIH488 sx_43 rfl ?_
          refine g_gfr hIH488 sx_24 rfl ?_
          refine g_iload_n rfl ?_
          refine g_iaload hIH488 sx_42 rfl (by omega) (fun v507 ev507 lv507 uv507 => ?_)
          refine g_if_ne (fun c508 => ?_) (fun c508 => ?_)
          · refine g_iconst (by decide) (fun v509 kv509 => ?_)
            refine g_nop ?_
            refine g_if2_eq (fun c510 => ?_) (fun c510 => ?_)
            · exfalso; omega
            · refine g_lload_n rfl ?_
              refine g_lconst (fun v511 _ => ?_)
              refine g_iload rfl ?_
              refine g_lshl (fun v512 _ => ?_)
              refine g_lor (fun v513 _ => ?_)
              refine g_lstore_n (l' := [(0, .ref 43), (1, .int a1), (2, .long v513), (4, .int v479), (5, .int v482), (6, .int v487), (7, .int v506)]) rfl rfl ?_
              refine g_nop ?_
              refine g_iinc (l' := (fun v514 => [(0, .ref 43), (1, .int a1), (2, .long v513), (4, .int v479), (5, .int v514), (6, .int v487), (7, .int v506)])) rfl rfl (by decide) (by omega) (fun _ => rfl) (fun v514 ev514 => ?_)
              refine g_goto ?_
              refine gG_pick [0, 1, 2, 4, 5] (l' := [(0, .ref 43), (1, .int a1), (2, .long v513), (4, .int v479), (5, .int v514)]) rfl ?_
              exact ihL485 v513 v514 H488 hIH488 hJH488 e492 (by omega) (by omega)
          · refine g_iconst (by decide) (fun v515 kv515 => ?_)
            refine g_goto ?_
            refine g_if2_eq (fun c516 => ?_) (fun c516 => ?_)
            · refine g_iinc (l' := (fun v517 => [(0, .ref 43), (1, .int a1), (2, .long v481), (4, .int v479), (5, .int v517), (6, .int v487), (7, .int v506)])) rfl rfl (by decide) (by omega) (fun _ => rfl) (fun v517 ev517 => ?_)
              refine g_goto ?_
              refine gG_pick [0, 1, 2, 4, 5] (l' := [(0, .ref 43), (1, .int a1), (2, .long v481), (4, .int v479), (5, .int v517)]) rfl ?_
              exact ihL485 v481 v517 H488 hIH488 hJH488 e492 (by omega) (by omega)
            · exfalso; omega
  exact L485 _ v476 v480 H hI hJ ek1_1 (by omega) (Nat.lt_succ_self _)
set_option maxRecDepth 4000 in
set_option maxHeartbeats 4000000 in
/-- X3.outcome -/
theorem s_34 (a1 : Int32) (ha1 : -1 ≤ a1.toInt ∧ a1.toInt ≤ 39) (H : mzH) (hI : gI SX H) (hJ : JX H) : gCall 34 [.ref 43, .int a1] H (gRi (fun v H' => gI SX H' ∧ JX H' ∧ fZ H' 1 1 = fZ H 1 1)) := by
  obtain ⟨k1_1, ek1_1⟩ : ∃ z, z = fZ H 1 1 := ⟨_, rfl⟩
  have ik1_1 : k1_1.toInt = (fZ H 1 1).toInt := by rw [← ek1_1]
  have bk1_1 : 0 ≤ k1_1.toInt ∧ k1_1.toInt ≤ 900 := by rw [ek1_1]; exact fZ_of hI sx_1 rfl
  refine gG_call [(0, .ref 43), (1, .int a1)] ⟨rfl, rfl, trivial⟩ ?_
  show gG 4 zB_34 (mzBlk zB_34 0) [(0, .ref 43), (1, .int a1)] [] H 0 0 _
  refine g_aload_n rfl ?_
  refine g_gfr hI sx_43 rfl ?_
  refine g_invvv hI sx_51 rfl rfl rfl rfl (s_25 51 zCo_51 H hI hJ) (fun H761 r762 => ?_)
  obtain ⟨hIH761, hJH761, w763⟩ := r762
  have e764 : k1_1 = fZ H761 1 1 := ek1_1.trans w763.symm
  refine g_aload_n rfl ?_
  refine g_gfr hIH761 sx_43 rfl ?_
  refine g_invvv hIH761 sx_44 rfl rfl rfl rfl (s_83 44 zWo_44 H761 hIH761 hJH761) (fun H765 r766 => ?_)
  obtain ⟨hIH765, hJH765, w767⟩ := r766
  have e768 : k1_1 = fZ H765 1 1 := e764.trans w767.symm
  refine g_iconst (by decide) (fun v769 kv769 => ?_)
  refine g_istore_n (l' := [(0, .ref 43), (1, .int a1), (2, .int v769)]) rfl rfl ?_
  refine g_iconst (by decide) (fun v770 kv770 => ?_)
  refine g_istore_n (l' := [(0, .ref 43), (1, .int a1), (2, .int v769), (3, .int v770)]) rfl rfl ?_
  refine g_nop ?_
  have L775 : ∀ (N : Nat) (v771 : Int32) (v772 : Int32) (H773 : mzH), gI SX H773 → JX H773 → k1_1 = fZ H773 1 1 → (0 ≤ v772.toInt ∧ v772.toInt ≤ 60) → (60 - v772.toInt).toNat < N → gG 4 zB_34 (mzBlk zB_34 1) [(0, .ref 43), (1, .int a1), (2, .int v771), (3, .int v772)] [] H773 0 0 (gRi (fun v H' => gI SX H' ∧ JX H' ∧ fZ H' 1 1 = fZ H 1 1)) := by
    intro N
    induction N with
    | zero => intro v771 v772 H773 hIH773 hJH773 e774 bv772 hmL775; exact absurd hmL775 (Nat.not_lt_zero _)
    | succ N ihL775 =>
      intro v771 v772 H773 hIH773 hJH773 e774 bv772 hmL775
      refine g_iload_n rfl ?_
      refine g_aload_n rfl ?_
      refine g_gfr hIH773 sx_43 rfl ?_
      refine g_gfi hIH773 sx_51 rfl (fun v776 ev776 lv776 uv776 => ?_)
      refine g_if2_ge (fun c777 => ?_) (fun c777 => ?_)
      · refine g_iload_n rfl ?_
        refine g_if_ge (fun c778 => ?_) (fun c778 => ?_)
        · refine g_aload_n rfl ?_
          refine g_gfr hIH773 sx_43 rfl ?_
          refine g_iload_n rfl ?_
          refine g_invvi hIH773 sx_44 rfl rfl rfl rfl (s_91 44 zWo_44 a1 (by omega) H773 hIH773 hJH773) (fun v781 H779 r780 => ?_)
          obtain rfl := r780
          refine g_nop ?_
          exact g_iret ⟨_, rfl, hIH773, hJH773, (e774.symm.trans ek1_1)⟩
        · refine g_iload_n rfl ?_
          refine g_goto ?_
          exact g_iret ⟨_, rfl, hIH773, hJH773, (e774.symm.trans ek1_1)⟩
      · refine g_iload_n rfl ?_
        refine g_aload_n rfl ?_
        refine g_gfr hIH773 sx_43 rfl ?_
        refine g_aload_n rfl ?_
        refine g_gfr hIH773 sx_43 rfl ?_
        refine g_aload_n rfl ?_
        refine g_gfr hIH773 sx_43 rfl ?_
        refine g_gfr hIH773 sx_51 rfl ?_
        refine g_iload_n rfl ?_
        refine g_iaload hIH773 sx_53 rfl (by omega) (fun v782 ev782 lv782 uv782 => ?_)
        refine g_aload_n rfl ?_
        refine g_gfr hIH773 sx_43 rfl ?_
        refine g_iload_n rfl ?_
        refine g_invvi hIH773 sx_51 rfl rfl rfl rfl (s_27 51 zCo_51 v772 (by omega) H773 hIH773 hJH773) (fun v785 H783 r784 => ?_)
        obtain rfl := r784
        refine g_invvi hIH773 sx_44 rfl rfl rfl rfl (s_93 44 zWo_44 3 zBo_3 v782 (by omega) v785 H773 hIH773 hJH773) (fun v788 H786 r787 => ?_)
        obtain ⟨hIH786, hJH786, w789⟩ := r787
        have e790 : k1_1 = fZ H786 1 1 := e774.trans w789.symm
        refine g_if_eq (fun c791 => ?_) (fun c791 => ?_)
        · refine g_iconst (by decide) (fun v792 kv792 => ?_)
          refine g_nop ?_
          refine g_iadd (by have := gz_any v771; omega) (fun v793 ev793 => ?_)
          refine g_istore_n (l' := [(0, .ref 43), (1, .int a1), (2, .int v793), (3, .int v772)]) rfl rfl ?_
          refine g_iinc (l' := (fun v794 => [(0, .ref 43), (1, .int a1), (2, .int v793), (3, .int v794)])) rfl rfl (by decide) (by omega) (fun _ => rfl) (fun v794 ev794 => ?_)
          refine g_goto ?_
          exact ihL775 v793 v794 H786 hIH786 hJH786 e790 (by omega) (by omega)
        · refine g_iconst (by decide) (fun v795 kv795 => ?_)
          refine g_goto ?_
          refine g_iadd' (fun v796 _ => ?_)
          refine g_istore_n (l' := [(0, .ref 43), (1, .int a1), (2, .int v796), (3, .int v772)]) rfl rfl ?_
          refine g_iinc (l' := (fun v797 => [(0, .ref 43), (1, .int a1), (2, .int v796), (3, .int v797)])) rfl rfl (by decide) (by omega) (fun _ => rfl) (fun v797 ev797 => ?_)
          refine g_goto ?_
          exact ihL775 v796 v797 H786 hIH786 hJH786 e790 (by omega) (by omega)
  exact L775 _ v769 v770 H765 hIH765 hJH765 e768 (by omega) (Nat.lt_succ_self _)
set_option maxRecDepth 4000 in
set_option maxHeartbeats 4000000 in
/-- X3.outcomeAt -/
theorem s_32 (a1 : Int32) (ha1 : 0 ≤ a1.toInt ∧ a1.toInt ≤ 59) (a2 : Int32) (a3 : Int32) (ha3 : -1 ≤ a3.toInt ∧ a3.toInt ≤ 39) (H : mzH) (hI : gI SX H) (hJ : JX H) : gCall 32 [.ref 43, .int a1, .int a2, .int a3] H (gRi (fun v H' => gI SX H' ∧ JX H' ∧ fZ H' 1 1 = fZ H 1 1)) := by
  obtain ⟨k1_1, ek1_1⟩ : ∃ z, z = fZ H 1 1 := ⟨_, rfl⟩
  have ik1_1 : k1_1.toInt = (fZ H 1 1).toInt := by rw [← ek1_1]
  have bk1_1 : 0 ≤ k1_1.toInt ∧ k1_1.toInt ≤ 900 := by rw [ek1_1]; exact fZ_of hI sx_1 rfl
  refine gG_call [(0, .ref 43), (1, .int a1), (2, .int a2), (3, .int a3)] ⟨rfl, rfl, rfl, rfl, trivial⟩ ?_
  show gG 4 zB_32 (mzBlk zB_32 0) [(0, .ref 43), (1, .int a1), (2, .int a2), (3, .int a3)] [] H 0 0 _
  refine g_aload_n rfl ?_
  refine g_gfr hI sx_43 rfl ?_
  refine g_aload_n rfl ?_
  refine g_gfr hI sx_43 rfl ?_
  refine g_invvv hI sx_51 rfl rfl rfl rfl (s_24 51 zCo_51 3 zBo_3 H hI hJ) (fun H45 r46 => ?_)
  obtain ⟨hIH45, hJH45, w47⟩ := r46
  have e48 : k1_1 = fZ H45 1 1 := ek1_1.trans w47.symm
  refine g_aload_n rfl ?_
  refine g_gfr hIH45 sx_43 rfl ?_
  refine g_gfr hIH45 sx_51 rfl ?_
  refine g_iload_n rfl ?_
  refine g_iload_n rfl ?_
  refine g_iastore hIH45 sx_52 (by omega) (gz_any _) (fun H49 eH49 hIH49 => ?_)
  have hJH49 : JX H49 := JX_sA (by omega) eH49 hJH45
  have e50 : k1_1 = fZ H49 1 1 := by rw [eH49, fZ_sA]; exact e48
  refine g_aload_n rfl ?_
  refine g_iload_n rfl ?_
  refine g_invvi hIH49 sx_43 rfl rfl rfl rfl (s_34 a3 (by omega) H49 hIH49 hJH49) (fun v53 H51 r52 => ?_)
  obtain ⟨hIH51, hJH51, w54⟩ := r52
  have e55 : k1_1 = fZ H51 1 1 := e50.trans w54.symm
  exact g_iret ⟨_, rfl, hIH51, hJH51, (e55.symm.trans ek1_1)⟩
set_option maxRecDepth 4000 in
set_option maxHeartbeats 4000000 in
/-- X3.outcomeSwapped -/
theorem s_33 (a1 : Int32) (ha1 : 0 ≤ a1.toInt ∧ a1.toInt ≤ 59) (a2 : Int32) (ha2 : 0 ≤ a2.toInt ∧ a2.toInt ≤ 59) (a3 : Int32) (ha3 : -1 ≤ a3.toInt ∧ a3.toInt ≤ 39) (H : mzH) (hI : gI SX H) (hJ : JX H) : gCall 33 [.ref 43, .int a1, .int a2, .int a3] H (gRi (fun v H' => gI SX H' ∧ JX H' ∧ fZ H' 1 1 = fZ H 1 1)) := by
  obtain ⟨k1_1, ek1_1⟩ : ∃ z, z = fZ H 1 1 := ⟨_, rfl⟩
  have ik1_1 : k1_1.toInt = (fZ H 1 1).toInt := by rw [← ek1_1]
  have bk1_1 : 0 ≤ k1_1.toInt ∧ k1_1.toInt ≤ 900 := by rw [ek1_1]; exact fZ_of hI sx_1 rfl
  refine gG_call [(0, .ref 43), (1, .int a1), (2, .int a2), (3, .int a3)] ⟨rfl, rfl, rfl, rfl, trivial⟩ ?_
  show gG 4 zB_33 (mzBlk zB_33 0) [(0, .ref 43), (1, .int a1), (2, .int a2), (3, .int a3)] [] H 0 0 _
  refine g_aload_n rfl ?_
  refine g_gfr hI sx_43 rfl ?_
  refine g_aload_n rfl ?_
  refine g_gfr hI sx_43 rfl ?_
  refine g_invvv hI sx_51 rfl rfl rfl rfl (s_24 51 zCo_51 3 zBo_3 H hI hJ) (fun H61 r62 => ?_)
  obtain ⟨hIH61, hJH61, w63⟩ := r62
  have e64 : k1_1 = fZ H61 1 1 := ek1_1.trans w63.symm
  refine g_aload_n rfl ?_
  refine g_gfr hIH61 sx_43 rfl ?_
  refine g_gfr hIH61 sx_51 rfl ?_
  refine g_iload_n rfl ?_
  refine g_aload_n rfl ?_
  refine g_gfr hIH61 sx_43 rfl ?_
  refine g_gfr hIH61 sx_3 rfl ?_
  refine g_iload_n rfl ?_
  refine g_iaload hIH61 sx_6 rfl (by omega) (fun v65 ev65 lv65 uv65 => ?_)
  refine g_iastore hIH61 sx_52 (by omega) (gz_any _) (fun H66 eH66 hIH66 => ?_)
  have hJH66 : JX H66 := JX_sA (by omega) eH66 hJH61
  have e67 : k1_1 = fZ H66 1 1 := by rw [eH66, fZ_sA]; exact e64
  refine g_aload_n rfl ?_
  refine g_gfr hIH66 sx_43 rfl ?_
  refine g_gfr hIH66 sx_51 rfl ?_
  refine g_iload_n rfl ?_
  refine g_aload_n rfl ?_
  refine g_gfr hIH66 sx_43 rfl ?_
  refine g_gfr hIH66 sx_3 rfl ?_
  refine g_iload_n rfl ?_
  refine g_iaload hIH66 sx_6 rfl (by omega) (fun v68 ev68 lv68 uv68 => ?_)
  refine g_iastore hIH66 sx_52 (by omega) (gz_any _) (fun H69 eH69 hIH69 => ?_)
  have hJH69 : JX H69 := JX_sA (by omega) eH69 hJH66
  have e70 : k1_1 = fZ H69 1 1 := by rw [eH69, fZ_sA]; exact e67
  refine g_aload_n rfl ?_
  refine g_iload_n rfl ?_
  refine g_invvi hIH69 sx_43 rfl rfl rfl rfl (s_34 a3 (by omega) H69 hIH69 hJH69) (fun v73 H71 r72 => ?_)
  obtain ⟨hIH71, hJH71, w74⟩ := r72
  have e75 : k1_1 = fZ H71 1 1 := e70.trans w74.symm
  exact g_iret ⟨_, rfl, hIH71, hJH71, (e75.symm.trans ek1_1)⟩
set_option maxRecDepth 4000 in
set_option maxHeartbeats 4000000 in
/-- X3.isAheadOf -/
theorem s_36 (a1 : Int32) (ha1 : 0 ≤ a1.toInt ∧ a1.toInt ≤ 59) (a2 : Int32) (a3 : Int32) (H : mzH) (hI : gI SX H) (hJ : JX H) : gCall 36 [.ref 43, .int a1, .int a2, .int a3] H (gRi (fun v H' => H = H' ∧ (0 ≤ v.toInt ∧ v.toInt ≤ 1))) := by
  refine gG_call [(0, .ref 43), (1, .int a1), (2, .int a2), (3, .int a3)] ⟨rfl, rfl, rfl, rfl, trivial⟩ ?_
  show gG 6 zB_36 (mzBlk zB_36 0) [(0, .ref 43), (1, .int a1), (2, .int a2), (3, .int a3)] [] H 0 0 _
  refine g_aload_n rfl ?_
  refine g_gfr hI sx_43 rfl ?_
  refine g_gfr hI sx_24 rfl ?_
  refine g_gfr hI sx_25 rfl ?_
  refine g_iload_n rfl ?_
  refine g_iaload hI sx_27 rfl (by omega) (fun v45 ev45 lv45 uv45 => ?_)
  refine g_istore (l' := [(0, .ref 43), (1, .int a1), (2, .int a2), (3, .int a3), (4, .int v45)]) rfl rfl ?_
  refine g_aload_n rfl ?_
  refine g_gfr hI sx_43 rfl ?_
  refine g_gfr hI sx_3 rfl ?_
  refine g_iload rfl ?_
  refine g_iaload hI sx_6 rfl (by omega) (fun v46 ev46 lv46 uv46 => ?_)
  refine g_istore (l' := [(0, .ref 43), (1, .int a1), (2, .int a2), (3, .int a3), (4, .int v45), (5, .int v46)]) rfl rfl ?_
  refine g_iload rfl ?_
  refine g_iload_n rfl ?_
  refine g_if2_eq (fun c47 => ?_) (fun c47 => ?_)
  · refine g_iconst (by decide) (fun v48 kv48 => ?_)
    refine g_goto ?_
    exact g_zret (by omega) ⟨_, rfl, rfl, (by omega)⟩
  · refine g_iload rfl ?_
    refine g_iload_n rfl ?_
    refine g_if2_lt (fun c49 => ?_) (fun c49 => ?_)
    · refine g_iconst (by decide) (fun v50 kv50 => ?_)
      refine g_goto ?_
      exact g_zret (by omega) ⟨_, rfl, rfl, (by omega)⟩
    · refine g_iload rfl ?_
      refine g_iload_n rfl ?_
      refine g_if2_ne (fun c51 => ?_) (fun c51 => ?_)
      · refine g_iconst (by decide) (fun v52 kv52 => ?_)
        refine g_nop ?_
        exact g_zret (by omega) ⟨_, rfl, rfl, (by omega)⟩
      · refine g_iload rfl ?_
        refine g_iload_n rfl ?_
        refine g_if2_ge (fun c53 => ?_) (fun c53 => ?_)
        · refine g_iconst (by decide) (fun v54 kv54 => ?_)
          refine g_nop ?_
          exact g_zret (by omega) ⟨_, rfl, rfl, (by omega)⟩
        · refine g_nop ?_
          refine g_iconst (by decide) (fun v55 kv55 => ?_)
          refine g_goto ?_
          exact g_zret (by omega) ⟨_, rfl, rfl, (by omega)⟩
set_option maxRecDepth 4000 in
set_option maxHeartbeats 4000000 in
/-- X3.openWindow -/
theorem s_35 (a1 : Int32) (ha1 : 0 ≤ a1.toInt ∧ a1.toInt ≤ 59) (H : mzH) (hI : gI SX H) (hJ : JX H) : gCall 35 [.ref 43, .int a1] H (gRv (fun H' => gI SX H' ∧ JX H' ∧ fZ H' 1 1 = fZ H 1 1)) := by
  obtain ⟨k1_1, ek1_1⟩ : ∃ z, z = fZ H 1 1 := ⟨_, rfl⟩
  have ik1_1 : k1_1.toInt = (fZ H 1 1).toInt := by rw [← ek1_1]
  have bk1_1 : 0 ≤ k1_1.toInt ∧ k1_1.toInt ≤ 900 := by rw [ek1_1]; exact fZ_of hI sx_1 rfl
  refine gG_call [(0, .ref 43), (1, .int a1)] ⟨rfl, rfl, trivial⟩ ?_
  show gG 8 zB_35 (mzBlk zB_35 0) [(0, .ref 43), (1, .int a1)] [] H 0 0 _
  have L4832 : ∀ (N : Nat) (v4826 : Int32) (v4827 : Int32) (v4828 : Int32) (v4829 : Int32) (H4830 : mzH), gI SX H4830 → JX H4830 → k1_1 = fZ H4830 1 1 → (0 ≤ v4826.toInt ∧ v4826.toInt ≤ 60) → (0 ≤ v4827.toInt ∧ v4827.toInt ≤ 1) → (0 ≤ v4828.toInt ∧ v4828.toInt ≤ 1) → (0 ≤ v4829.toInt ∧ v4829.toInt ≤ 1000) → (1000 - v4829.toInt).toNat < N → gG 8 zB_35 (mzBlk zB_35 6) [(0, .ref 43), (1, .int a1), (2, .int v4826), (3, .int v4827), (4, .int v4828), (5, .int v4829)] [] H4830 0 0 (gRv (fun H' => gI SX H' ∧ JX H' ∧ fZ H' 1 1 = fZ H 1 1)) := by
    intro N
    induction N with
    | zero => intro v4826 v4827 v4828 v4829 H4830 hIH4830 hJH4830 e4831 bv4826 bv4827 bv4828 bv4829 hmL4832; exact absurd hmL4832 (Nat.not_lt_zero _)
    | succ N ihL4832 =>
      intro v4826 v4827 v4828 v4829 H4830 hIH4830 hJH4830 e4831 bv4826 bv4827 bv4828 bv4829 hmL4832
      refine g_iload rfl ?_
      refine g_sipush (by decide) (fun v4833 kv4833 => ?_)
      refine g_if2_gt (fun c4834 => ?_) (fun c4834 => ?_)
      · exact g_ret ⟨rfl, hIH4830, hJH4830, (e4831.symm.trans ek1_1)⟩
      · refine g_iload_n rfl ?_
        refine g_istore (l' := [(0, .ref 43), (1, .int a1), (2, .int v4826), (3, .int v4827), (4, .int v4828), (5, .int v4829), (6, .int v4826)]) rfl rfl ?_
        refine g_nop ?_
        have L4838 : ∀ (N : Nat) (v4835 : Int32) (H4836 : mzH), gI SX H4836 → JX H4836 → k1_1 = fZ H4836 1 1 → (0 ≤ v4835.toInt ∧ v4835.toInt ≤ 60) → (60 - v4835.toInt).toNat < N → gG 8 zB_35 (mzBlk zB_35 7) [(0, .ref 43), (1, .int a1), (2, .int v4835), (3, .int v4827), (4, .int v4828), (5, .int v4829), (6, .int v4826)] [] H4836 0 0 (gRv (fun H' => gI SX H' ∧ JX H' ∧ fZ H' 1 1 = fZ H 1 1)) := by
          intro N
          induction N with
          | zero => intro v4835 H4836 hIH4836 hJH4836 e4837 bv4835 hmL4838; exact absurd hmL4838 (Nat.not_lt_zero _)
          | succ N ihL4838 =>
            intro v4835 H4836 hIH4836 hJH4836 e4837 bv4835 hmL4838
            refine g_iload_n rfl ?_
            refine g_aload_n rfl ?_
            refine g_gfr hIH4836 sx_43 rfl ?_
            refine g_gfr hIH4836 sx_24 rfl ?_
            refine g_gfi hIH4836 sx_25 rfl (fun v4839 ev4839 lv4839 uv4839 => ?_)
            refine g_if2_ge (fun c4840 => ?_) (fun c4840 => ?_)
            · refine g_iload_n rfl ?_
              refine g_iload rfl ?_
              refine g_if2_ne (fun c4841 => ?_) (fun c4841 => ?_)
              · refine g_aload_n rfl ?_
                refine g_gfr hIH4836 sx_43 rfl ?_
                refine g_aload_n rfl ?_
                refine g_gfr hIH4836 sx_43 rfl ?_
                refine g_iload_n rfl ?_
                refine g_iload rfl ?_
                refine g_invvi hIH4836 sx_44 rfl rfl rfl rfl (s_94 44 zWo_44 3 zBo_3 a1 (by omega) v4829 H4836 hIH4836 hJH4836) (fun v4844 H4842 r4843 => ?_)
                obtain rfl := r4843
                refine g_if_ne (fun c4845 => ?_) (fun c4845 => ?_)
                · refine g_iconst (by decide) (fun v4846 kv4846 => ?_)
                  refine g_nop ?_
                  refine g_istore_n (l' := [(0, .ref 43), (1, .int a1), (2, .int v4835), (3, .int v4846), (4, .int v4828), (5, .int v4829), (6, .int v4826)]) rfl rfl ?_
                  refine g_nop ?_
                  refine g_iload_n rfl ?_
                  refine g_if_eq (fun c4847 => ?_) (fun c4847 => ?_)
                  · refine g_iinc (l' := (fun v4848 => [(0, .ref 43), (1, .int a1), (2, .int v4835), (3, .int v4846), (4, .int v4828), (5, .int v4848), (6, .int v4826)])) rfl rfl (by decide) (by omega) (fun _ => rfl) (fun v4848 ev4848 => ?_)
                    refine g_goto ?_
                    refine gG_pick [0, 1, 2, 3, 4, 5] (l' := [(0, .ref 43), (1, .int a1), (2, .int v4835), (3, .int v4846), (4, .int v4828), (5, .int v4848)]) rfl ?_
                    exact ihL4832 v4835 v4846 v4828 v4848 H4836 hIH4836 hJH4836 e4837 (by omega) (by omega) (by omega) (by omega) (by omega)
                  · exfalso; omega
                · refine g_iconst (by decide) (fun v4849 kv4849 => ?_)
                  refine g_goto ?_
                  refine g_istore_n (l' := [(0, .ref 43), (1, .int a1), (2, .int v4835), (3, .int v4849), (4, .int v4828), (5, .int v4829), (6, .int v4826)]) rfl rfl ?_
                  refine g_nop ?_
                  refine g_iload_n rfl ?_
                  refine g_if_eq (fun c4850 => ?_) (fun c4850 => ?_)
                  · exfalso; omega
                  · refine g_aload_n rfl ?_
                    refine g_aload_n rfl ?_
                    refine g_gfi hIH4836 sx_43 rfl (fun v4851 ev4851 lv4851 uv4851 => ?_)
                    refine g_if_ne (fun c4852 => ?_) (fun c4852 => ?_)
                    · refine g_aload_n rfl ?_
                      refine g_gfi hIH4836 sx_43 rfl (fun v4853 ev4853 lv4853 uv4853 => ?_)
                      refine g_nop ?_
                      refine g_pfi hIH4836 sx_43 rfl (gz_any _) (fun H4854 eH4854 hIH4854 => ?_)
                      have hJH4854 : JX H4854 := JX_sF eH4854 hJH4836
                      have e4855 : k1_1 = fZ H4854 1 1 := by rw [eH4854, fZ_sF_nc (by omega)]; exact e4837
                      refine g_aload_n rfl ?_
                      refine g_iload rfl ?_
                      refine g_pfi hIH4854 sx_43 rfl (gz_any _) (fun H4856 eH4856 hIH4856 => ?_)
                      have hJH4856 : JX H4856 := JX_sF eH4856 hJH4854
                      have e4857 : k1_1 = fZ H4856 1 1 := by rw [eH4856, fZ_sF_nc (by omega)]; exact e4855
                      refine g_aload_n rfl ?_
                      refine g_dup rfl ?_
                      refine g_gfi hIH4856 sx_43 rfl (fun v4858 ev4858 lv4858 uv4858 => ?_)
                      refine g_iconst (by decide) (fun v4859 kv4859 => ?_)
                      refine g_iadd' (fun v4860 _ => ?_)
                      refine g_pfi hIH4856 sx_43 rfl (gz_any _) (fun H4861 eH4861 hIH4861 => ?_)
                      have hJH4861 : JX H4861 := JX_sF eH4861 hJH4856
                      have e4862 : k1_1 = fZ H4861 1 1 := by rw [eH4861, fZ_sF_nc (by omega)]; exact e4857
                      refine g_nop ?_
                      refine g_iinc (l' := (fun v4863 => [(0, .ref 43), (1, .int a1), (2, .int v4835), (3, .int v4849), (4, .int v4828), (5, .int v4863), (6, .int v4826)])) rfl rfl (by decide) (by omega) (fun _ => rfl) (fun v4863 ev4863 => ?_)
                      refine g_goto ?_
                      refine gG_pick [0, 1, 2, 3, 4, 5] (l' := [(0, .ref 43), (1, .int a1), (2, .int v4835), (3, .int v4849), (4, .int v4828), (5, .int v4863)]) rfl ?_
                      exact ihL4832 v4835 v4849 v4828 v4863 H4861 hIH4861 hJH4861 e4862 (by omega) (by omega) (by omega) (by omega) (by omega)
                    · refine g_iload rfl ?_
                      refine g_goto ?_
                      refine g_pfi hIH4836 sx_43 rfl (gz_any _) (fun H4864 eH4864 hIH4864 => ?_)
                      have hJH4864 : JX H4864 := JX_sF eH4864 hJH4836
                      have e4865 : k1_1 = fZ H4864 1 1 := by rw [eH4864, fZ_sF_nc (by omega)]; exact e4837
                      refine g_aload_n rfl ?_
                      refine g_iload rfl ?_
                      refine g_pfi hIH4864 sx_43 rfl (gz_any _) (fun H4866 eH4866 hIH4866 => ?_)
                      have hJH4866 : JX H4866 := JX_sF eH4866 hJH4864
                      have e4867 : k1_1 = fZ H4866 1 1 := by rw [eH4866, fZ_sF_nc (by omega)]; exact e4865
                      refine g_aload_n rfl ?_
                      refine g_dup rfl ?_
                      refine g_gfi hIH4866 sx_43 rfl (fun v4868 ev4868 lv4868 uv4868 => ?_)
                      refine g_iconst (by decide) (fun v4869 kv4869 => ?_)
                      refine g_iadd' (fun v4870 _ => ?_)
                      refine g_pfi hIH4866 sx_43 rfl (gz_any _) (fun H4871 eH4871 hIH4871 => ?_)
                      have hJH4871 : JX H4871 := JX_sF eH4871 hJH4866
                      have e4872 : k1_1 = fZ H4871 1 1 := by rw [eH4871, fZ_sF_nc (by omega)]; exact e4867
                      refine g_nop ?_
                      refine g_iinc (l' := (fun v4873 => [(0, .ref 43), (1, .int a1), (2, .int v4835), (3, .int v4849), (4, .int v4828), (5, .int v4873), (6, .int v4826)])) rfl rfl (by decide) (by omega) (fun _ => rfl) (fun v4873 ev4873 => ?_)
                      refine g_goto ?_
                      refine gG_pick [0, 1, 2, 3, 4, 5] (l' := [(0, .ref 43), (1, .int a1), (2, .int v4835), (3, .int v4849), (4, .int v4828), (5, .int v4873)]) rfl ?_
                      exact ihL4832 v4835 v4849 v4828 v4873 H4871 hIH4871 hJH4871 e4872 (by omega) (by omega) (by omega) (by omega) (by omega)
              · refine g_iload rfl ?_
                refine g_if_eq (fun c4874 => ?_) (fun c4874 => ?_)
                · refine g_iload_n rfl ?_
                  refine g_if_eq (fun c4875 => ?_) (fun c4875 => ?_)
                  · refine g_iinc (l' := (fun v4876 => [(0, .ref 43), (1, .int a1), (2, .int v4835), (3, .int v4827), (4, .int v4828), (5, .int v4876), (6, .int v4826)])) rfl rfl (by decide) (by omega) (fun _ => rfl) (fun v4876 ev4876 => ?_)
                    refine g_goto ?_
                    refine gG_pick [0, 1, 2, 3, 4, 5] (l' := [(0, .ref 43), (1, .int a1), (2, .int v4835), (3, .int v4827), (4, .int v4828), (5, .int v4876)]) rfl ?_
                    exact ihL4832 v4835 v4827 v4828 v4876 H4836 hIH4836 hJH4836 e4837 (by omega) (by omega) (by omega) (by omega) (by omega)
                  · refine g_aload_n rfl ?_
                    refine g_aload_n rfl ?_
                    refine g_gfi hIH4836 sx_43 rfl (fun v4877 ev4877 lv4877 uv4877 => ?_)
                    refine g_if_ne (fun c4878 => ?_) (fun c4878 => ?_)
                    · refine g_aload_n rfl ?_
                      refine g_gfi hIH4836 sx_43 rfl (fun v4879 ev4879 lv4879 uv4879 => ?_)
                      refine g_nop ?_
                      refine g_pfi hIH4836 sx_43 rfl (gz_any _) (fun H4880 eH4880 hIH4880 => ?_)
                      have hJH4880 : JX H4880 := JX_sF eH4880 hJH4836
                      have e4881 : k1_1 = fZ H4880 1 1 := by rw [eH4880, fZ_sF_nc (by omega)]; exact e4837
                      refine g_aload_n rfl ?_
                      refine g_iload rfl ?_
                      refine g_pfi hIH4880 sx_43 rfl (gz_any _) (fun H4882 eH4882 hIH4882 => ?_)
                      have hJH4882 : JX H4882 := JX_sF eH4882 hJH4880
                      have e4883 : k1_1 = fZ H4882 1 1 := by rw [eH4882, fZ_sF_nc (by omega)]; exact e4881
                      refine g_aload_n rfl ?_
                      refine g_dup rfl ?_
                      refine g_gfi hIH4882 sx_43 rfl (fun v4884 ev4884 lv4884 uv4884 => ?_)
                      refine g_iconst (by decide) (fun v4885 kv4885 => ?_)
                      refine g_iadd' (fun v4886 _ => ?_)
                      refine g_pfi hIH4882 sx_43 rfl (gz_any _) (fun H4887 eH4887 hIH4887 => ?_)
                      have hJH4887 : JX H4887 := JX_sF eH4887 hJH4882
                      have e4888 : k1_1 = fZ H4887 1 1 := by rw [eH4887, fZ_sF_nc (by omega)]; exact e4883
                      refine g_nop ?_
                      refine g_iinc (l' := (fun v4889 => [(0, .ref 43), (1, .int a1), (2, .int v4835), (3, .int v4827), (4, .int v4828), (5, .int v4889), (6, .int v4826)])) rfl rfl (by decide) (by omega) (fun _ => rfl) (fun v4889 ev4889 => ?_)
                      refine g_goto ?_
                      refine gG_pick [0, 1, 2, 3, 4, 5] (l' := [(0, .ref 43), (1, .int a1), (2, .int v4835), (3, .int v4827), (4, .int v4828), (5, .int v4889)]) rfl ?_
                      exact ihL4832 v4835 v4827 v4828 v4889 H4887 hIH4887 hJH4887 e4888 (by omega) (by omega) (by omega) (by omega) (by omega)
                    · refine g_iload rfl ?_
                      refine g_goto ?_
                      refine g_pfi hIH4836 sx_43 rfl (gz_any _) (fun H4890 eH4890 hIH4890 => ?_)
                      have hJH4890 : JX H4890 := JX_sF eH4890 hJH4836
                      have e4891 : k1_1 = fZ H4890 1 1 := by rw [eH4890, fZ_sF_nc (by omega)]; exact e4837
                      refine g_aload_n rfl ?_
                      refine g_iload rfl ?_
                      refine g_pfi hIH4890 sx_43 rfl (gz_any _) (fun H4892 eH4892 hIH4892 => ?_)
                      have hJH4892 : JX H4892 := JX_sF eH4892 hJH4890
                      have e4893 : k1_1 = fZ H4892 1 1 := by rw [eH4892, fZ_sF_nc (by omega)]; exact e4891
                      refine g_aload_n rfl ?_
                      refine g_dup rfl ?_
                      refine g_gfi hIH4892 sx_43 rfl (fun v4894 ev4894 lv4894 uv4894 => ?_)
                      refine g_iconst (by decide) (fun v4895 kv4895 => ?_)
                      refine g_iadd' (fun v4896 _ => ?_)
                      refine g_pfi hIH4892 sx_43 rfl (gz_any _) (fun H4897 eH4897 hIH4897 => ?_)
                      have hJH4897 : JX H4897 := JX_sF eH4897 hJH4892
                      have e4898 : k1_1 = fZ H4897 1 1 := by rw [eH4897, fZ_sF_nc (by omega)]; exact e4893
                      refine g_nop ?_
                      refine g_iinc (l' := (fun v4899 => [(0, .ref 43), (1, .int a1), (2, .int v4835), (3, .int v4827), (4, .int v4828), (5, .int v4899), (6, .int v4826)])) rfl rfl (by decide) (by omega) (fun _ => rfl) (fun v4899 ev4899 => ?_)
                      refine g_goto ?_
                      refine gG_pick [0, 1, 2, 3, 4, 5] (l' := [(0, .ref 43), (1, .int a1), (2, .int v4835), (3, .int v4827), (4, .int v4828), (5, .int v4899)]) rfl ?_
                      exact ihL4832 v4835 v4827 v4828 v4899 H4897 hIH4897 hJH4897 e4898 (by omega) (by omega) (by omega) (by omega) (by omega)
                · refine g_nop ?_
                  refine g_aload_n rfl ?_
                  refine g_gfr hIH4836 sx_43 rfl ?_
                  refine g_aload_n rfl ?_
                  refine g_gfr hIH4836 sx_43 rfl ?_
                  refine g_iload_n rfl ?_
                  refine g_iload rfl ?_
                  refine g_invvi hIH4836 sx_44 rfl rfl rfl rfl (s_94 44 zWo_44 3 zBo_3 a1 (by omega) v4829 H4836 hIH4836 hJH4836) (fun v4902 H4900 r4901 => ?_)
                  obtain rfl := r4901
                  refine g_if_ne (fun c4903 => ?_) (fun c4903 => ?_)
                  · refine g_iconst (by decide) (fun v4904 kv4904 => ?_)
                    refine g_nop ?_
                    refine g_istore_n (l' := [(0, .ref 43), (1, .int a1), (2, .int v4835), (3, .int v4904), (4, .int v4828), (5, .int v4829), (6, .int v4826)]) rfl rfl ?_
                    refine g_nop ?_
                    refine g_iload_n rfl ?_
                    refine g_if_eq (fun c4905 => ?_) (fun c4905 => ?_)
                    · refine g_iinc (l' := (fun v4906 => [(0, .ref 43), (1, .int a1), (2, .int v4835), (3, .int v4904), (4, .int v4828), (5, .int v4906), (6, .int v4826)])) rfl rfl (by decide) (by omega) (fun _ => rfl) (fun v4906 ev4906 => ?_)
                      refine g_goto ?_
                      refine gG_pick [0, 1, 2, 3, 4, 5] (l' := [(0, .ref 43), (1, .int a1), (2, .int v4835), (3, .int v4904), (4, .int v4828), (5, .int v4906)]) rfl ?_
                      exact ihL4832 v4835 v4904 v4828 v4906 H4836 hIH4836 hJH4836 e4837 (by omega) (by omega) (by omega) (by omega) (by omega)
                    · exfalso; omega
                  · refine g_iconst (by decide) (fun v4907 kv4907 => ?_)
                    refine g_goto ?_
                    refine g_istore_n (l' := [(0, .ref 43), (1, .int a1), (2, .int v4835), (3, .int v4907), (4, .int v4828), (5, .int v4829), (6, .int v4826)]) rfl rfl ?_
                    refine g_nop ?_
                    refine g_iload_n rfl ?_
                    refine g_if_eq (fun c4908 => ?_) (fun c4908 => ?_)
                    · exfalso; omega
                    · refine g_aload_n rfl ?_
                      refine g_aload_n rfl ?_
                      refine g_gfi hIH4836 sx_43 rfl (fun v4909 ev4909 lv4909 uv4909 => ?_)
                      refine g_if_ne (fun c4910 => ?_) (fun c4910 => ?_)
                      · refine g_aload_n rfl ?_
                        refine g_gfi hIH4836 sx_43 rfl (fun v4911 ev4911 lv4911 uv4911 => ?_)
                        refine g_nop ?_
                        refine g_pfi hIH4836 sx_43 rfl (gz_any _) (fun H4912 eH4912 hIH4912 => ?_)
                        have hJH4912 : JX H4912 := JX_sF eH4912 hJH4836
                        have e4913 : k1_1 = fZ H4912 1 1 := by rw [eH4912, fZ_sF_nc (by omega)]; exact e4837
                        refine g_aload_n rfl ?_
                        refine g_iload rfl ?_
                        refine g_pfi hIH4912 sx_43 rfl (gz_any _) (fun H4914 eH4914 hIH4914 => ?_)
                        have hJH4914 : JX H4914 := JX_sF eH4914 hJH4912
                        have e4915 : k1_1 = fZ H4914 1 1 := by rw [eH4914, fZ_sF_nc (by omega)]; exact e4913
                        refine g_aload_n rfl ?_
                        refine g_dup rfl ?_
                        refine g_gfi hIH4914 sx_43 rfl (fun v4916 ev4916 lv4916 uv4916 => ?_)
                        refine g_iconst (by decide) (fun v4917 kv4917 => ?_)
                        refine g_iadd' (fun v4918 _ => ?_)
                        refine g_pfi hIH4914 sx_43 rfl (gz_any _) (fun H4919 eH4919 hIH4919 => ?_)
                        have hJH4919 : JX H4919 := JX_sF eH4919 hJH4914
                        have e4920 : k1_1 = fZ H4919 1 1 := by rw [eH4919, fZ_sF_nc (by omega)]; exact e4915
                        refine g_nop ?_
                        refine g_iinc (l' := (fun v4921 => [(0, .ref 43), (1, .int a1), (2, .int v4835), (3, .int v4907), (4, .int v4828), (5, .int v4921), (6, .int v4826)])) rfl rfl (by decide) (by omega) (fun _ => rfl) (fun v4921 ev4921 => ?_)
                        refine g_goto ?_
                        refine gG_pick [0, 1, 2, 3, 4, 5] (l' := [(0, .ref 43), (1, .int a1), (2, .int v4835), (3, .int v4907), (4, .int v4828), (5, .int v4921)]) rfl ?_
                        exact ihL4832 v4835 v4907 v4828 v4921 H4919 hIH4919 hJH4919 e4920 (by omega) (by omega) (by omega) (by omega) (by omega)
                      · refine g_iload rfl ?_
                        refine g_goto ?_
                        refine g_pfi hIH4836 sx_43 rfl (gz_any _) (fun H4922 eH4922 hIH4922 => ?_)
                        have hJH4922 : JX H4922 := JX_sF eH4922 hJH4836
                        have e4923 : k1_1 = fZ H4922 1 1 := by rw [eH4922, fZ_sF_nc (by omega)]; exact e4837
                        refine g_aload_n rfl ?_
                        refine g_iload rfl ?_
                        refine g_pfi hIH4922 sx_43 rfl (gz_any _) (fun H4924 eH4924 hIH4924 => ?_)
                        have hJH4924 : JX H4924 := JX_sF eH4924 hJH4922
                        have e4925 : k1_1 = fZ H4924 1 1 := by rw [eH4924, fZ_sF_nc (by omega)]; exact e4923
                        refine g_aload_n rfl ?_
                        refine g_dup rfl ?_
                        refine g_gfi hIH4924 sx_43 rfl (fun v4926 ev4926 lv4926 uv4926 => ?_)
                        refine g_iconst (by decide) (fun v4927 kv4927 => ?_)
                        refine g_iadd' (fun v4928 _ => ?_)
                        refine g_pfi hIH4924 sx_43 rfl (gz_any _) (fun H4929 eH4929 hIH4929 => ?_)
                        have hJH4929 : JX H4929 := JX_sF eH4929 hJH4924
                        have e4930 : k1_1 = fZ H4929 1 1 := by rw [eH4929, fZ_sF_nc (by omega)]; exact e4925
                        refine g_nop ?_
                        refine g_iinc (l' := (fun v4931 => [(0, .ref 43), (1, .int a1), (2, .int v4835), (3, .int v4907), (4, .int v4828), (5, .int v4931), (6, .int v4826)])) rfl rfl (by decide) (by omega) (fun _ => rfl) (fun v4931 ev4931 => ?_)
                        refine g_goto ?_
                        refine gG_pick [0, 1, 2, 3, 4, 5] (l' := [(0, .ref 43), (1, .int a1), (2, .int v4835), (3, .int v4907), (4, .int v4828), (5, .int v4931)]) rfl ?_
                        exact ihL4832 v4835 v4907 v4828 v4931 H4929 hIH4929 hJH4929 e4930 (by omega) (by omega) (by omega) (by omega) (by omega)
            · refine g_aload_n rfl ?_
              refine g_iload_n rfl ?_
              refine g_iload_n rfl ?_
              refine g_iload rfl ?_
              refine g_invvi hIH4836 sx_43 rfl rfl rfl rfl (s_36 v4835 (by omega) a1 v4829 H4836 hIH4836 hJH4836) (fun v4934 H4932 r4933 => ?_)
              obtain ⟨rfl, bv4934⟩ := r4933
              refine g_if_eq (fun c4935 => ?_) (fun c4935 => ?_)
              · refine g_iload_n rfl ?_
                refine g_iload rfl ?_
                refine g_if2_ne (fun c4936 => ?_) (fun c4936 => ?_)
                · refine g_aload_n rfl ?_
                  refine g_gfr hIH4836 sx_43 rfl ?_
                  refine g_aload_n rfl ?_
                  refine g_gfr hIH4836 sx_43 rfl ?_
                  refine g_iload_n rfl ?_
                  refine g_iload rfl ?_
                  refine g_invvi hIH4836 sx_44 rfl rfl rfl rfl (s_94 44 zWo_44 3 zBo_3 a1 (by omega) v4829 H4836 hIH4836 hJH4836) (fun v4939 H4937 r4938 => ?_)
                  obtain rfl := r4938
                  refine g_if_ne (fun c4940 => ?_) (fun c4940 => ?_)
                  · refine g_iconst (by decide) (fun v4941 kv4941 => ?_)
                    refine g_nop ?_
                    refine g_istore_n (l' := [(0, .ref 43), (1, .int a1), (2, .int v4835), (3, .int v4941), (4, .int v4828), (5, .int v4829), (6, .int v4826)]) rfl rfl ?_
                    refine g_nop ?_
                    refine g_iload_n rfl ?_
                    refine g_if_eq (fun c4942 => ?_) (fun c4942 => ?_)
                    · refine g_iinc (l' := (fun v4943 => [(0, .ref 43), (1, .int a1), (2, .int v4835), (3, .int v4941), (4, .int v4828), (5, .int v4943), (6, .int v4826)])) rfl rfl (by decide) (by omega) (fun _ => rfl) (fun v4943 ev4943 => ?_)
                      refine g_goto ?_
                      refine gG_pick [0, 1, 2, 3, 4, 5] (l' := [(0, .ref 43), (1, .int a1), (2, .int v4835), (3, .int v4941), (4, .int v4828), (5, .int v4943)]) rfl ?_
                      exact ihL4832 v4835 v4941 v4828 v4943 H4836 hIH4836 hJH4836 e4837 (by omega) (by omega) (by omega) (by omega) (by omega)
                    · exfalso; omega
                  · refine g_iconst (by decide) (fun v4944 kv4944 => ?_)
                    refine g_goto ?_
                    refine g_istore_n (l' := [(0, .ref 43), (1, .int a1), (2, .int v4835), (3, .int v4944), (4, .int v4828), (5, .int v4829), (6, .int v4826)]) rfl rfl ?_
                    refine g_nop ?_
                    refine g_iload_n rfl ?_
                    refine g_if_eq (fun c4945 => ?_) (fun c4945 => ?_)
                    · exfalso; omega
                    · refine g_aload_n rfl ?_
                      refine g_aload_n rfl ?_
                      refine g_gfi hIH4836 sx_43 rfl (fun v4946 ev4946 lv4946 uv4946 => ?_)
                      refine g_if_ne (fun c4947 => ?_) (fun c4947 => ?_)
                      · refine g_aload_n rfl ?_
                        refine g_gfi hIH4836 sx_43 rfl (fun v4948 ev4948 lv4948 uv4948 => ?_)
                        refine g_nop ?_
                        refine g_pfi hIH4836 sx_43 rfl (gz_any _) (fun H4949 eH4949 hIH4949 => ?_)
                        have hJH4949 : JX H4949 := JX_sF eH4949 hJH4836
                        have e4950 : k1_1 = fZ H4949 1 1 := by rw [eH4949, fZ_sF_nc (by omega)]; exact e4837
                        refine g_aload_n rfl ?_
                        refine g_iload rfl ?_
                        refine g_pfi hIH4949 sx_43 rfl (gz_any _) (fun H4951 eH4951 hIH4951 => ?_)
                        have hJH4951 : JX H4951 := JX_sF eH4951 hJH4949
                        have e4952 : k1_1 = fZ H4951 1 1 := by rw [eH4951, fZ_sF_nc (by omega)]; exact e4950
                        refine g_aload_n rfl ?_
                        refine g_dup rfl ?_
                        refine g_gfi hIH4951 sx_43 rfl (fun v4953 ev4953 lv4953 uv4953 => ?_)
                        refine g_iconst (by decide) (fun v4954 kv4954 => ?_)
                        refine g_iadd' (fun v4955 _ => ?_)
                        refine g_pfi hIH4951 sx_43 rfl (gz_any _) (fun H4956 eH4956 hIH4956 => ?_)
                        have hJH4956 : JX H4956 := JX_sF eH4956 hJH4951
                        have e4957 : k1_1 = fZ H4956 1 1 := by rw [eH4956, fZ_sF_nc (by omega)]; exact e4952
                        refine g_nop ?_
                        refine g_iinc (l' := (fun v4958 => [(0, .ref 43), (1, .int a1), (2, .int v4835), (3, .int v4944), (4, .int v4828), (5, .int v4958), (6, .int v4826)])) rfl rfl (by decide) (by omega) (fun _ => rfl) (fun v4958 ev4958 => ?_)
                        refine g_goto ?_
                        refine gG_pick [0, 1, 2, 3, 4, 5] (l' := [(0, .ref 43), (1, .int a1), (2, .int v4835), (3, .int v4944), (4, .int v4828), (5, .int v4958)]) rfl ?_
                        exact ihL4832 v4835 v4944 v4828 v4958 H4956 hIH4956 hJH4956 e4957 (by omega) (by omega) (by omega) (by omega) (by omega)
                      · refine g_iload rfl ?_
                        refine g_goto ?_
                        refine g_pfi hIH4836 sx_43 rfl (gz_any _) (fun H4959 eH4959 hIH4959 => ?_)
                        have hJH4959 : JX H4959 := JX_sF eH4959 hJH4836
                        have e4960 : k1_1 = fZ H4959 1 1 := by rw [eH4959, fZ_sF_nc (by omega)]; exact e4837
                        refine g_aload_n rfl ?_
                        refine g_iload rfl ?_
                        refine g_pfi hIH4959 sx_43 rfl (gz_any _) (fun H4961 eH4961 hIH4961 => ?_)
                        have hJH4961 : JX H4961 := JX_sF eH4961 hJH4959
                        have e4962 : k1_1 = fZ H4961 1 1 := by rw [eH4961, fZ_sF_nc (by omega)]; exact e4960
                        refine g_aload_n rfl ?_
                        refine g_dup rfl ?_
                        refine g_gfi hIH4961 sx_43 rfl (fun v4963 ev4963 lv4963 uv4963 => ?_)
                        refine g_iconst (by decide) (fun v4964 kv4964 => ?_)
                        refine g_iadd' (fun v4965 _ => ?_)
                        refine g_pfi hIH4961 sx_43 rfl (gz_any _) (fun H4966 eH4966 hIH4966 => ?_)
                        have hJH4966 : JX H4966 := JX_sF eH4966 hJH4961
                        have e4967 : k1_1 = fZ H4966 1 1 := by rw [eH4966, fZ_sF_nc (by omega)]; exact e4962
                        refine g_nop ?_
                        refine g_iinc (l' := (fun v4968 => [(0, .ref 43), (1, .int a1), (2, .int v4835), (3, .int v4944), (4, .int v4828), (5, .int v4968), (6, .int v4826)])) rfl rfl (by decide) (by omega) (fun _ => rfl) (fun v4968 ev4968 => ?_)
                        refine g_goto ?_
                        refine gG_pick [0, 1, 2, 3, 4, 5] (l' := [(0, .ref 43), (1, .int a1), (2, .int v4835), (3, .int v4944), (4, .int v4828), (5, .int v4968)]) rfl ?_
                        exact ihL4832 v4835 v4944 v4828 v4968 H4966 hIH4966 hJH4966 e4967 (by omega) (by omega) (by omega) (by omega) (by omega)
                · refine g_iload rfl ?_
                  refine g_if_eq (fun c4969 => ?_) (fun c4969 => ?_)
                  · refine g_iload_n rfl ?_
                    refine g_if_eq (fun c4970 => ?_) (fun c4970 => ?_)
                    · refine g_iinc (l' := (fun v4971 => [(0, .ref 43), (1, .int a1), (2, .int v4835), (3, .int v4827), (4, .int v4828), (5, .int v4971), (6, .int v4826)])) rfl rfl (by decide) (by omega) (fun _ => rfl) (fun v4971 ev4971 => ?_)
                      refine g_goto ?_
                      refine gG_pick [0, 1, 2, 3, 4, 5] (l' := [(0, .ref 43), (1, .int a1), (2, .int v4835), (3, .int v4827), (4, .int v4828), (5, .int v4971)]) rfl ?_
                      exact ihL4832 v4835 v4827 v4828 v4971 H4836 hIH4836 hJH4836 e4837 (by omega) (by omega) (by omega) (by omega) (by omega)
                    · refine g_aload_n rfl ?_
                      refine g_aload_n rfl ?_
                      refine g_gfi hIH4836 sx_43 rfl (fun v4972 ev4972 lv4972 uv4972 => ?_)
                      refine g_if_ne (fun c4973 => ?_) (fun c4973 => ?_)
                      · refine g_aload_n rfl ?_
                        refine g_gfi hIH4836 sx_43 rfl (fun v4974 ev4974 lv4974 uv4974 => ?_)
                        refine g_nop ?_
                        refine g_pfi hIH4836 sx_43 rfl (gz_any _) (fun H4975 eH4975 hIH4975 => ?_)
                        have hJH4975 : JX H4975 := JX_sF eH4975 hJH4836
                        have e4976 : k1_1 = fZ H4975 1 1 := by rw [eH4975, fZ_sF_nc (by omega)]; exact e4837
                        refine g_aload_n rfl ?_
                        refine g_iload rfl ?_
                        refine g_pfi hIH4975 sx_43 rfl (gz_any _) (fun H4977 eH4977 hIH4977 => ?_)
                        have hJH4977 : JX H4977 := JX_sF eH4977 hJH4975
                        have e4978 : k1_1 = fZ H4977 1 1 := by rw [eH4977, fZ_sF_nc (by omega)]; exact e4976
                        refine g_aload_n rfl ?_
                        refine g_dup rfl ?_
                        refine g_gfi hIH4977 sx_43 rfl (fun v4979 ev4979 lv4979 uv4979 => ?_)
                        refine g_iconst (by decide) (fun v4980 kv4980 => ?_)
                        refine g_iadd' (fun v4981 _ => ?_)
                        refine g_pfi hIH4977 sx_43 rfl (gz_any _) (fun H4982 eH4982 hIH4982 => ?_)
                        have hJH4982 : JX H4982 := JX_sF eH4982 hJH4977
                        have e4983 : k1_1 = fZ H4982 1 1 := by rw [eH4982, fZ_sF_nc (by omega)]; exact e4978
                        refine g_nop ?_
                        refine g_iinc (l' := (fun v4984 => [(0, .ref 43), (1, .int a1), (2, .int v4835), (3, .int v4827), (4, .int v4828), (5, .int v4984), (6, .int v4826)])) rfl rfl (by decide) (by omega) (fun _ => rfl) (fun v4984 ev4984 => ?_)
                        refine g_goto ?_
                        refine gG_pick [0, 1, 2, 3, 4, 5] (l' := [(0, .ref 43), (1, .int a1), (2, .int v4835), (3, .int v4827), (4, .int v4828), (5, .int v4984)]) rfl ?_
                        exact ihL4832 v4835 v4827 v4828 v4984 H4982 hIH4982 hJH4982 e4983 (by omega) (by omega) (by omega) (by omega) (by omega)
                      · refine g_iload rfl ?_
                        refine g_goto ?_
                        refine g_pfi hIH4836 sx_43 rfl (gz_any _) (fun H4985 eH4985 hIH4985 => ?_)
                        have hJH4985 : JX H4985 := JX_sF eH4985 hJH4836
                        have e4986 : k1_1 = fZ H4985 1 1 := by rw [eH4985, fZ_sF_nc (by omega)]; exact e4837
                        refine g_aload_n rfl ?_
                        refine g_iload rfl ?_
                        refine g_pfi hIH4985 sx_43 rfl (gz_any _) (fun H4987 eH4987 hIH4987 => ?_)
                        have hJH4987 : JX H4987 := JX_sF eH4987 hJH4985
                        have e4988 : k1_1 = fZ H4987 1 1 := by rw [eH4987, fZ_sF_nc (by omega)]; exact e4986
                        refine g_aload_n rfl ?_
                        refine g_dup rfl ?_
                        refine g_gfi hIH4987 sx_43 rfl (fun v4989 ev4989 lv4989 uv4989 => ?_)
                        refine g_iconst (by decide) (fun v4990 kv4990 => ?_)
                        refine g_iadd' (fun v4991 _ => ?_)
                        refine g_pfi hIH4987 sx_43 rfl (gz_any _) (fun H4992 eH4992 hIH4992 => ?_)
                        have hJH4992 : JX H4992 := JX_sF eH4992 hJH4987
                        have e4993 : k1_1 = fZ H4992 1 1 := by rw [eH4992, fZ_sF_nc (by omega)]; exact e4988
                        refine g_nop ?_
                        refine g_iinc (l' := (fun v4994 => [(0, .ref 43), (1, .int a1), (2, .int v4835), (3, .int v4827), (4, .int v4828), (5, .int v4994), (6, .int v4826)])) rfl rfl (by decide) (by omega) (fun _ => rfl) (fun v4994 ev4994 => ?_)
                        refine g_goto ?_
                        refine gG_pick [0, 1, 2, 3, 4, 5] (l' := [(0, .ref 43), (1, .int a1), (2, .int v4835), (3, .int v4827), (4, .int v4828), (5, .int v4994)]) rfl ?_
                        exact ihL4832 v4835 v4827 v4828 v4994 H4992 hIH4992 hJH4992 e4993 (by omega) (by omega) (by omega) (by omega) (by omega)
                  · refine g_nop ?_
                    refine g_aload_n rfl ?_
                    refine g_gfr hIH4836 sx_43 rfl ?_
                    refine g_aload_n rfl ?_
                    refine g_gfr hIH4836 sx_43 rfl ?_
                    refine g_iload_n rfl ?_
                    refine g_iload rfl ?_
                    refine g_invvi hIH4836 sx_44 rfl rfl rfl rfl (s_94 44 zWo_44 3 zBo_3 a1 (by omega) v4829 H4836 hIH4836 hJH4836) (fun v4997 H4995 r4996 => ?_)
                    obtain rfl := r4996
                    refine g_if_ne (fun c4998 => ?_) (fun c4998 => ?_)
                    · refine g_iconst (by decide) (fun v4999 kv4999 => ?_)
                      refine g_nop ?_
                      refine g_istore_n (l' := [(0, .ref 43), (1, .int a1), (2, .int v4835), (3, .int v4999), (4, .int v4828), (5, .int v4829), (6, .int v4826)]) rfl rfl ?_
                      refine g_nop ?_
                      refine g_iload_n rfl ?_
                      refine g_if_eq (fun c5000 => ?_) (fun c5000 => ?_)
                      · refine g_iinc (l' := (fun v5001 => [(0, .ref 43), (1, .int a1), (2, .int v4835), (3, .int v4999), (4, .int v4828), (5, .int v5001), (6, .int v4826)])) rfl rfl (by decide) (by omega) (fun _ => rfl) (fun v5001 ev5001 => ?_)
                        refine g_goto ?_
                        refine gG_pick [0, 1, 2, 3, 4, 5] (l' := [(0, .ref 43), (1, .int a1), (2, .int v4835), (3, .int v4999), (4, .int v4828), (5, .int v5001)]) rfl ?_
                        exact ihL4832 v4835 v4999 v4828 v5001 H4836 hIH4836 hJH4836 e4837 (by omega) (by omega) (by omega) (by omega) (by omega)
                      · exfalso; omega
                    · refine g_iconst (by decide) (fun v5002 kv5002 => ?_)
                      refine g_goto ?_
                      refine g_istore_n (l' := [(0, .ref 43), (1, .int a1), (2, .int v4835), (3, .int v5002), (4, .int v4828), (5, .int v4829), (6, .int v4826)]) rfl rfl ?_
                      refine g_nop ?_
                      refine g_iload_n rfl ?_
                      refine g_if_eq (fun c5003 => ?_) (fun c5003 => ?_)
                      · exfalso; omega
                      · refine g_aload_n rfl ?_
                        refine g_aload_n rfl ?_
                        refine g_gfi hIH4836 sx_43 rfl (fun v5004 ev5004 lv5004 uv5004 => ?_)
                        refine g_if_ne (fun c5005 => ?_) (fun c5005 => ?_)
                        · refine g_aload_n rfl ?_
                          refine g_gfi hIH4836 sx_43 rfl (fun v5006 ev5006 lv5006 uv5006 => ?_)
                          refine g_nop ?_
                          refine g_pfi hIH4836 sx_43 rfl (gz_any _) (fun H5007 eH5007 hIH5007 => ?_)
                          have hJH5007 : JX H5007 := JX_sF eH5007 hJH4836
                          have e5008 : k1_1 = fZ H5007 1 1 := by rw [eH5007, fZ_sF_nc (by omega)]; exact e4837
                          refine g_aload_n rfl ?_
                          refine g_iload rfl ?_
                          refine g_pfi hIH5007 sx_43 rfl (gz_any _) (fun H5009 eH5009 hIH5009 => ?_)
                          have hJH5009 : JX H5009 := JX_sF eH5009 hJH5007
                          have e5010 : k1_1 = fZ H5009 1 1 := by rw [eH5009, fZ_sF_nc (by omega)]; exact e5008
                          refine g_aload_n rfl ?_
                          refine g_dup rfl ?_
                          refine g_gfi hIH5009 sx_43 rfl (fun v5011 ev5011 lv5011 uv5011 => ?_)
                          refine g_iconst (by decide) (fun v5012 kv5012 => ?_)
                          refine g_iadd' (fun v5013 _ => ?_)
                          refine g_pfi hIH5009 sx_43 rfl (gz_any _) (fun H5014 eH5014 hIH5014 => ?_)
                          have hJH5014 : JX H5014 := JX_sF eH5014 hJH5009
                          have e5015 : k1_1 = fZ H5014 1 1 := by rw [eH5014, fZ_sF_nc (by omega)]; exact e5010
                          refine g_nop ?_
                          refine g_iinc (l' := (fun v5016 => [(0, .ref 43), (1, .int a1), (2, .int v4835), (3, .int v5002), (4, .int v4828), (5, .int v5016), (6, .int v4826)])) rfl rfl (by decide) (by omega) (fun _ => rfl) (fun v5016 ev5016 => ?_)
                          refine g_goto ?_
                          refine gG_pick [0, 1, 2, 3, 4, 5] (l' := [(0, .ref 43), (1, .int a1), (2, .int v4835), (3, .int v5002), (4, .int v4828), (5, .int v5016)]) rfl ?_
                          exact ihL4832 v4835 v5002 v4828 v5016 H5014 hIH5014 hJH5014 e5015 (by omega) (by omega) (by omega) (by omega) (by omega)
                        · refine g_iload rfl ?_
                          refine g_goto ?_
                          refine g_pfi hIH4836 sx_43 rfl (gz_any _) (fun H5017 eH5017 hIH5017 => ?_)
                          have hJH5017 : JX H5017 := JX_sF eH5017 hJH4836
                          have e5018 : k1_1 = fZ H5017 1 1 := by rw [eH5017, fZ_sF_nc (by omega)]; exact e4837
                          refine g_aload_n rfl ?_
                          refine g_iload rfl ?_
                          refine g_pfi hIH5017 sx_43 rfl (gz_any _) (fun H5019 eH5019 hIH5019 => ?_)
                          have hJH5019 : JX H5019 := JX_sF eH5019 hJH5017
                          have e5020 : k1_1 = fZ H5019 1 1 := by rw [eH5019, fZ_sF_nc (by omega)]; exact e5018
                          refine g_aload_n rfl ?_
                          refine g_dup rfl ?_
                          refine g_gfi hIH5019 sx_43 rfl (fun v5021 ev5021 lv5021 uv5021 => ?_)
                          refine g_iconst (by decide) (fun v5022 kv5022 => ?_)
                          refine g_iadd' (fun v5023 _ => ?_)
                          refine g_pfi hIH5019 sx_43 rfl (gz_any _) (fun H5024 eH5024 hIH5024 => ?_)
                          have hJH5024 : JX H5024 := JX_sF eH5024 hJH5019
                          have e5025 : k1_1 = fZ H5024 1 1 := by rw [eH5024, fZ_sF_nc (by omega)]; exact e5020
                          refine g_nop ?_
                          refine g_iinc (l' := (fun v5026 => [(0, .ref 43), (1, .int a1), (2, .int v4835), (3, .int v5002), (4, .int v4828), (5, .int v5026), (6, .int v4826)])) rfl rfl (by decide) (by omega) (fun _ => rfl) (fun v5026 ev5026 => ?_)
                          refine g_goto ?_
                          refine gG_pick [0, 1, 2, 3, 4, 5] (l' := [(0, .ref 43), (1, .int a1), (2, .int v4835), (3, .int v5002), (4, .int v4828), (5, .int v5026)]) rfl ?_
                          exact ihL4832 v4835 v5002 v4828 v5026 H5024 hIH5024 hJH5024 e5025 (by omega) (by omega) (by omega) (by omega) (by omega)
              · refine g_aload_n rfl ?_
                refine g_gfr hIH4836 sx_43 rfl ?_
                refine g_gfr hIH4836 sx_24 rfl ?_
                refine g_gfr hIH4836 sx_25 rfl ?_
                refine g_iload_n rfl ?_
                refine g_iaload hIH4836 sx_27 rfl (by omega) (fun v5027 ev5027 lv5027 uv5027 => ?_)
                refine g_istore (l' := [(0, .ref 43), (1, .int a1), (2, .int v4835), (3, .int v4827), (4, .int v4828), (5, .int v4829), (6, .int v4826), (7, .int v5027)]) rfl rfl ?_
                refine g_iload rfl ?_
                refine g_iload_n rfl ?_
                refine g_if2_eq (fun c5028 => ?_) (fun c5028 => ?_)
                · refine g_iinc (l' := (fun v5029 => [(0, .ref 43), (1, .int a1), (2, .int v5029), (3, .int v4827), (4, .int v4828), (5, .int v4829), (6, .int v4826), (7, .int v5027)])) rfl rfl (by decide) (by omega) (fun _ => rfl) (fun v5029 ev5029 => ?_)
                  refine g_goto ?_
                  refine gG_pick [0, 1, 2, 3, 4, 5, 6] (l' := [(0, .ref 43), (1, .int a1), (2, .int v5029), (3, .int v4827), (4, .int v4828), (5, .int v4829), (6, .int v4826)]) rfl ?_
                  exact ihL4838 v5029 H4836 hIH4836 hJH4836 e4837 (by omega) (by omega)
                · refine g_aload_n rfl ?_
                  refine g_gfr hIH4836 sx_43 rfl ?_
                  refine g_aload_n rfl ?_
                  refine g_gfr hIH4836 sx_43 rfl ?_
                  refine g_iload rfl ?_
                  refine g_aload_n rfl ?_
                  refine g_gfr hIH4836 sx_43 rfl ?_
                  refine g_gfr hIH4836 sx_3 rfl ?_
                  refine g_iload rfl ?_
                  refine g_iaload hIH4836 sx_6 rfl (by omega) (fun v5030 ev5030 lv5030 uv5030 => ?_)
                  refine g_invvi hIH4836 sx_44 rfl rfl rfl rfl (s_93 44 zWo_44 3 zBo_3 v5027 (by omega) v5030 H4836 hIH4836 hJH4836) (fun v5033 H5031 r5032 => ?_)
                  obtain ⟨hIH5031, hJH5031, w5034⟩ := r5032
                  have e5035 : k1_1 = fZ H5031 1 1 := e4837.trans w5034.symm
                  refine g_pop rfl ?_
                  refine g_nop ?_
                  refine g_iinc (l' := (fun v5036 => [(0, .ref 43), (1, .int a1), (2, .int v5036), (3, .int v4827), (4, .int v4828), (5, .int v4829), (6, .int v4826), (7, .int v5027)])) rfl rfl (by decide) (by omega) (fun _ => rfl) (fun v5036 ev5036 => ?_)
                  refine g_goto ?_
                  refine gG_pick [0, 1, 2, 3, 4, 5, 6] (l' := [(0, .ref 43), (1, .int a1), (2, .int v5036), (3, .int v4827), (4, .int v4828), (5, .int v4829), (6, .int v4826)]) rfl ?_
                  exact ihL4838 v5036 H5031 hIH5031 hJH5031 e5035 (by omega) (by omega)
        exact L4838 _ v4826 H4830 hIH4830 hJH4830 e4831 (by omega) (Nat.lt_succ_self _)
  refine g_aload_n rfl ?_
  refine g_bipush (by decide) (fun v5037 kv5037 => ?_)
  refine g_pfi hI sx_43 rfl (gz_any _) (fun H5038 eH5038 hIH5038 => ?_)
  have hJH5038 : JX H5038 := JX_sF eH5038 hJ
  have e5039 : k1_1 = fZ H5038 1 1 := by rw [eH5038, fZ_sF_nc (by omega)]; exact ek1_1
  refine g_aload_n rfl ?_
  refine g_bipush (by decide) (fun v5040 kv5040 => ?_)
  refine g_pfi hIH5038 sx_43 rfl (gz_any _) (fun H5041 eH5041 hIH5041 => ?_)
  have hJH5041 : JX H5041 := JX_sF eH5041 hJH5038
  have e5042 : k1_1 = fZ H5041 1 1 := by rw [eH5041, fZ_sF_nc (by omega)]; exact e5039
  refine g_aload_n rfl ?_
  refine g_iconst (by decide) (fun v5043 kv5043 => ?_)
  refine g_pfi hIH5041 sx_43 rfl (gz_any _) (fun H5044 eH5044 hIH5044 => ?_)
  have hJH5044 : JX H5044 := JX_sF eH5044 hJH5041
  have e5045 : k1_1 = fZ H5044 1 1 := by rw [eH5044, fZ_sF_nc (by omega)]; exact e5042
  refine g_aload_n rfl ?_
  refine g_gfr hIH5044 sx_43 rfl ?_
  refine g_invvv hIH5044 sx_44 rfl rfl rfl rfl (s_83 44 zWo_44 H5044 hIH5044 hJH5044) (fun H5046 r5047 => ?_)
  obtain ⟨hIH5046, hJH5046, w5048⟩ := r5047
  have e5049 : k1_1 = fZ H5046 1 1 := e5045.trans w5048.symm
  refine g_iconst (by decide) (fun v5050 kv5050 => ?_)
  refine g_istore_n (l' := [(0, .ref 43), (1, .int a1), (2, .int v5050)]) rfl rfl ?_
  refine g_aload_n rfl ?_
  refine g_gfr hIH5046 sx_43 rfl ?_
  refine g_aload_n rfl ?_
  refine g_gfr hIH5046 sx_43 rfl ?_
  refine g_iload_n rfl ?_
  refine g_iconst (by decide) (fun v5051 kv5051 => ?_)
  refine g_invvi hIH5046 sx_44 rfl rfl rfl rfl (s_94 44 zWo_44 3 zBo_3 a1 (by omega) v5051 H5046 hIH5046 hJH5046) (fun v5054 H5052 r5053 => ?_)
  obtain rfl := r5053
  refine g_if_ne (fun c5055 => ?_) (fun c5055 => ?_)
  · refine g_iconst (by decide) (fun v5056 kv5056 => ?_)
    refine g_nop ?_
    refine g_istore_n (l' := [(0, .ref 43), (1, .int a1), (2, .int v5050), (3, .int v5056)]) rfl rfl ?_
    refine g_aload_n rfl ?_
    refine g_gfr hIH5046 sx_43 rfl ?_
    refine g_gfr hIH5046 sx_3 rfl ?_
    refine g_iload_n rfl ?_
    refine g_iaload hIH5046 sx_7 rfl (by omega) (fun v5057 ev5057 lv5057 uv5057 => ?_)
    refine g_iconst (by decide) (fun v5058 kv5058 => ?_)
    refine g_if2_eq (fun c5059 => ?_) (fun c5059 => ?_)
    · refine g_iconst (by decide) (fun v5060 kv5060 => ?_)
      refine g_goto ?_
      refine g_istore (l' := [(0, .ref 43), (1, .int a1), (2, .int v5050), (3, .int v5056), (4, .int v5060)]) rfl rfl ?_
      refine g_iconst (by decide) (fun v5061 kv5061 => ?_)
      refine g_istore (l' := [(0, .ref 43), (1, .int a1), (2, .int v5050), (3, .int v5056), (4, .int v5060), (5, .int v5061)]) rfl rfl ?_
      refine g_nop ?_
      exact L4832 _ v5050 v5056 v5060 v5061 H5046 hIH5046 hJH5046 e5049 (by omega) (by omega) (by omega) (by omega) (Nat.lt_succ_self _)
    · refine g_aload_n rfl ?_
      refine g_gfr hIH5046 sx_43 rfl ?_
      refine g_gfr hIH5046 sx_3 rfl ?_
      refine g_iload_n rfl ?_
      refine g_ialoadk hIH5046 sx_7 rfl (by omega) ev5057 ?_
      refine g_bipush (by decide) (fun v5062 kv5062 => ?_)
      refine g_if2_ne (fun c5063 => ?_) (fun c5063 => ?_)
      · refine g_iconst (by decide) (fun v5064 kv5064 => ?_)
        refine g_nop ?_
        refine g_istore (l' := [(0, .ref 43), (1, .int a1), (2, .int v5050), (3, .int v5056), (4, .int v5064)]) rfl rfl ?_
        refine g_iconst (by decide) (fun v5065 kv5065 => ?_)
        refine g_istore (l' := [(0, .ref 43), (1, .int a1), (2, .int v5050), (3, .int v5056), (4, .int v5064), (5, .int v5065)]) rfl rfl ?_
        refine g_nop ?_
        exact L4832 _ v5050 v5056 v5064 v5065 H5046 hIH5046 hJH5046 e5049 (by omega) (by omega) (by omega) (by omega) (Nat.lt_succ_self _)
      · refine g_nop ?_
        refine g_iconst (by decide) (fun v5066 kv5066 => ?_)
        refine g_goto ?_
        refine g_istore (l' := [(0, .ref 43), (1, .int a1), (2, .int v5050), (3, .int v5056), (4, .int v5066)]) rfl rfl ?_
        refine g_iconst (by decide) (fun v5067 kv5067 => ?_)
        refine g_istore (l' := [(0, .ref 43), (1, .int a1), (2, .int v5050), (3, .int v5056), (4, .int v5066), (5, .int v5067)]) rfl rfl ?_
        refine g_nop ?_
        exact L4832 _ v5050 v5056 v5066 v5067 H5046 hIH5046 hJH5046 e5049 (by omega) (by omega) (by omega) (by omega) (Nat.lt_succ_self _)
  · refine g_iconst (by decide) (fun v5068 kv5068 => ?_)
    refine g_goto ?_
    refine g_istore_n (l' := [(0, .ref 43), (1, .int a1), (2, .int v5050), (3, .int v5068)]) rfl rfl ?_
    refine g_aload_n rfl ?_
    refine g_gfr hIH5046 sx_43 rfl ?_
    refine g_gfr hIH5046 sx_3 rfl ?_
    refine g_iload_n rfl ?_
    refine g_iaload hIH5046 sx_7 rfl (by omega) (fun v5069 ev5069 lv5069 uv5069 => ?_)
    refine g_iconst (by decide) (fun v5070 kv5070 => ?_)
    refine g_if2_eq (fun c5071 => ?_) (fun c5071 => ?_)
    · refine g_iconst (by decide) (fun v5072 kv5072 => ?_)
      refine g_goto ?_
      refine g_istore (l' := [(0, .ref 43), (1, .int a1), (2, .int v5050), (3, .int v5068), (4, .int v5072)]) rfl rfl ?_
      refine g_iconst (by decide) (fun v5073 kv5073 => ?_)
      refine g_istore (l' := [(0, .ref 43), (1, .int a1), (2, .int v5050), (3, .int v5068), (4, .int v5072), (5, .int v5073)]) rfl rfl ?_
      refine g_nop ?_
      exact L4832 _ v5050 v5068 v5072 v5073 H5046 hIH5046 hJH5046 e5049 (by omega) (by omega) (by omega) (by omega) (Nat.lt_succ_self _)
    · refine g_aload_n rfl ?_
      refine g_gfr hIH5046 sx_43 rfl ?_
      refine g_gfr hIH5046 sx_3 rfl ?_
      refine g_iload_n rfl ?_
      refine g_ialoadk hIH5046 sx_7 rfl (by omega) ev5069 ?_
      refine g_bipush (by decide) (fun v5074 kv5074 => ?_)
      refine g_if2_ne (fun c5075 => ?_) (fun c5075 => ?_)
      · refine g_iconst (by decide) (fun v5076 kv5076 => ?_)
        refine g_nop ?_
        refine g_istore (l' := [(0, .ref 43), (1, .int a1), (2, .int v5050), (3, .int v5068), (4, .int v5076)]) rfl rfl ?_
        refine g_iconst (by decide) (fun v5077 kv5077 => ?_)
        refine g_istore (l' := [(0, .ref 43), (1, .int a1), (2, .int v5050), (3, .int v5068), (4, .int v5076), (5, .int v5077)]) rfl rfl ?_
        refine g_nop ?_
        exact L4832 _ v5050 v5068 v5076 v5077 H5046 hIH5046 hJH5046 e5049 (by omega) (by omega) (by omega) (by omega) (Nat.lt_succ_self _)
      · refine g_nop ?_
        refine g_iconst (by decide) (fun v5078 kv5078 => ?_)
        refine g_goto ?_
        refine g_istore (l' := [(0, .ref 43), (1, .int a1), (2, .int v5050), (3, .int v5068), (4, .int v5078)]) rfl rfl ?_
        refine g_iconst (by decide) (fun v5079 kv5079 => ?_)
        refine g_istore (l' := [(0, .ref 43), (1, .int a1), (2, .int v5050), (3, .int v5068), (4, .int v5078), (5, .int v5079)]) rfl rfl ?_
        refine g_nop ?_
        exact L4832 _ v5050 v5068 v5078 v5079 H5046 hIH5046 hJH5046 e5049 (by omega) (by omega) (by omega) (by omega) (Nat.lt_succ_self _)
set_option maxRecDepth 4000 in
set_option maxHeartbeats 4000000 in
/-- X7.skipBlanks -/
theorem s_75 (H : mzH) (hI : gI SX H) (hJ : JX H) : gCall 75 [.ref 20] H (gRv (fun H' => gI SX H' ∧ JX H' ∧ fZ H' 1 1 = fZ H 1 1)) := by
  obtain ⟨k1_1, ek1_1⟩ : ∃ z, z = fZ H 1 1 := ⟨_, rfl⟩
  have ik1_1 : k1_1.toInt = (fZ H 1 1).toInt := by rw [← ek1_1]
  have bk1_1 : 0 ≤ k1_1.toInt ∧ k1_1.toInt ≤ 900 := by rw [ek1_1]; exact fZ_of hI sx_1 rfl
  refine gG_call [(0, .ref 20)] ⟨rfl, trivial⟩ ?_
  show gG 1 zB_75 (mzBlk zB_75 0) [(0, .ref 20)] [] H 0 0 _
  refine g_aload_n rfl ?_
  refine g_gfi hI sx_20 rfl (fun v153 ev153 lv153 uv153 => ?_)
  have iev153 : v153.toInt = (fZ H 20 6).toInt := by rw [← ev153]
  refine g_aload_n rfl ?_
  refine g_gfi hI sx_20 rfl (fun v154 ev154 lv154 uv154 => ?_)
  have iev154 : v154.toInt = (fZ H 20 5).toInt := by rw [← ev154]
  refine g_if2_ge (fun c155 => ?_) (fun c155 => ?_)
  · exact g_ret ⟨rfl, hI, hJ, (ek1_1.symm.trans ek1_1)⟩
  · refine g_aload_n rfl ?_
    refine g_gfr hI sx_20 rfl ?_
    refine g_gfr hI sx_1 rfl ?_
    refine g_aload_n rfl ?_
    refine g_gfk hI sx_20 rfl ev153 ?_
    refine g_baload hI sx_2 rfl (by omega) (fun v156 ev156 lv156 uv156 => ?_)
    refine g_bipush (by decide) (fun v157 kv157 => ?_)
    refine g_if2_eq (fun c158 => ?_) (fun c158 => ?_)
    · refine g_aload_n rfl ?_
      refine g_dup rfl ?_
      refine g_gfk hI sx_20 rfl ev153 ?_
      refine g_iconst (by decide) (fun v159 kv159 => ?_)
      refine g_iadd (by omega) (fun v160 ev160 => ?_)
      refine g_pfi hI sx_20 rfl (by omega) (fun H161 eH161 hIH161 => ?_)
      have hJH161 : JX H161 := JX_sF eH161 hJ
      have e162 : k1_1 = fZ H161 1 1 := by rw [eH161, fZ_sF_nc (by omega)]; exact ek1_1
      have e163 : v154 = fZ H161 20 5 := by rw [eH161, fZ_sF_ne (by decide)]; exact ev154
      have e164 : v160 = fZ H161 20 6 := by rw [eH161, fZ_sF_eq hI sx_20 rfl]
      have ie163 : v154.toInt = (fZ H161 20 5).toInt := by rw [← e163]
      have ie164 : v160.toInt = (fZ H161 20 6).toInt := by rw [← e164]
      refine g_goto ?_
      have L168 : ∀ (N : Nat) (H165 : mzH), gI SX H165 → JX H165 → k1_1 = fZ H165 1 1 → v154 = fZ H165 20 5 → (900 - (fZ H165 20 6).toInt).toNat < N → gG 1 zB_75 (mzBlk zB_75 0) [(0, .ref 20)] [] H165 0 0 (gRv (fun H' => gI SX H' ∧ JX H' ∧ fZ H' 1 1 = fZ H 1 1)) := by
        intro N
        induction N with
        | zero => intro H165 hIH165 hJH165 e166 e167 hmL168; exact absurd hmL168 (Nat.not_lt_zero _)
        | succ N ihL168 =>
          intro H165 hIH165 hJH165 e166 e167 hmL168
          refine g_aload_n rfl ?_
          refine g_gfi hIH165 sx_20 rfl (fun v169 ev169 lv169 uv169 => ?_)
          have iev169 : v169.toInt = (fZ H165 20 6).toInt := by rw [← ev169]
          refine g_aload_n rfl ?_
          refine g_gfk hIH165 sx_20 rfl e167 ?_
          refine g_if2_ge (fun c170 => ?_) (fun c170 => ?_)
          · exact g_ret ⟨rfl, hIH165, hJH165, (e166.symm.trans ek1_1)⟩
          · refine g_aload_n rfl ?_
            refine g_gfr hIH165 sx_20 rfl ?_
            refine g_gfr hIH165 sx_1 rfl ?_
            refine g_aload_n rfl ?_
            refine g_gfk hIH165 sx_20 rfl ev169 ?_
            refine g_baload hIH165 sx_2 rfl (by omega) (fun v171 ev171 lv171 uv171 => ?_)
            refine g_bipush (by decide) (fun v172 kv172 => ?_)
            refine g_if2_eq (fun c173 => ?_) (fun c173 => ?_)
            · refine g_aload_n rfl ?_
              refine g_dup rfl ?_
              refine g_gfk hIH165 sx_20 rfl ev169 ?_
              refine g_iconst (by decide) (fun v174 kv174 => ?_)
              refine g_iadd (by omega) (fun v175 ev175 => ?_)
              refine g_pfi hIH165 sx_20 rfl (by omega) (fun H176 eH176 hIH176 => ?_)
              have hJH176 : JX H176 := JX_sF eH176 hJH165
              have e177 : k1_1 = fZ H176 1 1 := by rw [eH176, fZ_sF_nc (by omega)]; exact e166
              have e178 : v154 = fZ H176 20 5 := by rw [eH176, fZ_sF_ne (by decide)]; exact e167
              have e179 : v175 = fZ H176 20 6 := by rw [eH176, fZ_sF_eq hIH165 sx_20 rfl]
              have ie178 : v154.toInt = (fZ H176 20 5).toInt := by rw [← e178]
              have ie179 : v175.toInt = (fZ H176 20 6).toInt := by rw [← e179]
              refine g_goto ?_
              exact ihL168 H176 hIH176 hJH176 e177 e178 (by omega)
            · refine g_aload_n rfl ?_
              refine g_gfr hIH165 sx_20 rfl ?_
              refine g_gfr hIH165 sx_1 rfl ?_
              refine g_aload_n rfl ?_
              refine g_gfk hIH165 sx_20 rfl ev169 ?_
              refine g_baloadk hIH165 sx_2 rfl (by omega) ev171 ?_
              refine g_bipush (by decide) (fun v180 kv180 => ?_)
              refine g_if2_ne (fun c181 => ?_) (fun c181 => ?_)
              · exact g_ret ⟨rfl, hIH165, hJH165, (e166.symm.trans ek1_1)⟩
              · refine g_nop ?_
                refine g_aload_n rfl ?_
                refine g_dup rfl ?_
                refine g_gfk hIH165 sx_20 rfl ev169 ?_
                refine g_iconst (by decide) (fun v182 kv182 => ?_)
                refine g_iadd (by omega) (fun v183 ev183 => ?_)
                refine g_pfi hIH165 sx_20 rfl (by omega) (fun H184 eH184 hIH184 => ?_)
                have hJH184 : JX H184 := JX_sF eH184 hJH165
                have e185 : k1_1 = fZ H184 1 1 := by rw [eH184, fZ_sF_nc (by omega)]; exact e166
                have e186 : v154 = fZ H184 20 5 := by rw [eH184, fZ_sF_ne (by decide)]; exact e167
                have e187 : v183 = fZ H184 20 6 := by rw [eH184, fZ_sF_eq hIH165 sx_20 rfl]
                have ie186 : v154.toInt = (fZ H184 20 5).toInt := by rw [← e186]
                have ie187 : v183.toInt = (fZ H184 20 6).toInt := by rw [← e187]
                refine g_goto ?_
                exact ihL168 H184 hIH184 hJH184 e185 e186 (by omega)
      exact L168 _ H161 hIH161 hJH161 e162 e163 (Nat.lt_succ_self _)
    · refine g_aload_n rfl ?_
      refine g_gfr hI sx_20 rfl ?_
      refine g_gfr hI sx_1 rfl ?_
      refine g_aload_n rfl ?_
      refine g_gfk hI sx_20 rfl ev153 ?_
      refine g_baloadk hI sx_2 rfl (by omega) ev156 ?_
      refine g_bipush (by decide) (fun v188 kv188 => ?_)
      refine g_if2_ne (fun c189 => ?_) (fun c189 => ?_)
      · exact g_ret ⟨rfl, hI, hJ, (ek1_1.symm.trans ek1_1)⟩
      · refine g_nop ?_
        refine g_aload_n rfl ?_
        refine g_dup rfl ?_
        refine g_gfk hI sx_20 rfl ev153 ?_
        refine g_iconst (by decide) (fun v190 kv190 => ?_)
        refine g_iadd (by omega) (fun v191 ev191 => ?_)
        refine g_pfi hI sx_20 rfl (by omega) (fun H192 eH192 hIH192 => ?_)
        have hJH192 : JX H192 := JX_sF eH192 hJ
        have e193 : k1_1 = fZ H192 1 1 := by rw [eH192, fZ_sF_nc (by omega)]; exact ek1_1
        have e194 : v154 = fZ H192 20 5 := by rw [eH192, fZ_sF_ne (by decide)]; exact ev154
        have e195 : v191 = fZ H192 20 6 := by rw [eH192, fZ_sF_eq hI sx_20 rfl]
        have ie194 : v154.toInt = (fZ H192 20 5).toInt := by rw [← e194]
        have ie195 : v191.toInt = (fZ H192 20 6).toInt := by rw [← e195]
        refine g_goto ?_
        have L199 : ∀ (N : Nat) (H196 : mzH), gI SX H196 → JX H196 → k1_1 = fZ H196 1 1 → v154 = fZ H196 20 5 → (900 - (fZ H196 20 6).toInt).toNat < N → gG 1 zB_75 (mzBlk zB_75 0) [(0, .ref 20)] [] H196 0 0 (gRv (fun H' => gI SX H' ∧ JX H' ∧ fZ H' 1 1 = fZ H 1 1)) := by
          intro N
          induction N with
          | zero => intro H196 hIH196 hJH196 e197 e198 hmL199; exact absurd hmL199 (Nat.not_lt_zero _)
          | succ N ihL199 =>
            intro H196 hIH196 hJH196 e197 e198 hmL199
            refine g_aload_n rfl ?_
            refine g_gfi hIH196 sx_20 rfl (fun v200 ev200 lv200 uv200 => ?_)
            have iev200 : v200.toInt = (fZ H196 20 6).toInt := by rw [← ev200]
            refine g_aload_n rfl ?_
            refine g_gfk hIH196 sx_20 rfl e198 ?_
            refine g_if2_ge (fun c201 => ?_) (fun c201 => ?_)
            · exact g_ret ⟨rfl, hIH196, hJH196, (e197.symm.trans ek1_1)⟩
            · refine g_aload_n rfl ?_
              refine g_gfr hIH196 sx_20 rfl ?_
              refine g_gfr hIH196 sx_1 rfl ?_
              refine g_aload_n rfl ?_
              refine g_gfk hIH196 sx_20 rfl ev200 ?_
              refine g_baload hIH196 sx_2 rfl (by omega) (fun v202 ev202 lv202 uv202 => ?_)
              refine g_bipush (by decide) (fun v203 kv203 => ?_)
              refine g_if2_eq (fun c204 => ?_) (fun c204 => ?_)
              · refine g_aload_n rfl ?_
                refine g_dup rfl ?_
                refine g_gfk hIH196 sx_20 rfl ev200 ?_
                refine g_iconst (by decide) (fun v205 kv205 => ?_)
                refine g_iadd (by omega) (fun v206 ev206 => ?_)
                refine g_pfi hIH196 sx_20 rfl (by omega) (fun H207 eH207 hIH207 => ?_)
                have hJH207 : JX H207 := JX_sF eH207 hJH196
                have e208 : k1_1 = fZ H207 1 1 := by rw [eH207, fZ_sF_nc (by omega)]; exact e197
                have e209 : v154 = fZ H207 20 5 := by rw [eH207, fZ_sF_ne (by decide)]; exact e198
                have e210 : v206 = fZ H207 20 6 := by rw [eH207, fZ_sF_eq hIH196 sx_20 rfl]
                have ie209 : v154.toInt = (fZ H207 20 5).toInt := by rw [← e209]
                have ie210 : v206.toInt = (fZ H207 20 6).toInt := by rw [← e210]
                refine g_goto ?_
                exact ihL199 H207 hIH207 hJH207 e208 e209 (by omega)
              · refine g_aload_n rfl ?_
                refine g_gfr hIH196 sx_20 rfl ?_
                refine g_gfr hIH196 sx_1 rfl ?_
                refine g_aload_n rfl ?_
                refine g_gfk hIH196 sx_20 rfl ev200 ?_
                refine g_baloadk hIH196 sx_2 rfl (by omega) ev202 ?_
                refine g_bipush (by decide) (fun v211 kv211 => ?_)
                refine g_if2_ne (fun c212 => ?_) (fun c212 => ?_)
                · exact g_ret ⟨rfl, hIH196, hJH196, (e197.symm.trans ek1_1)⟩
                · refine g_nop ?_
                  refine g_aload_n rfl ?_
                  refine g_dup rfl ?_
                  refine g_gfk hIH196 sx_20 rfl ev200 ?_
                  refine g_iconst (by decide) (fun v213 kv213 => ?_)
                  refine g_iadd (by omega) (fun v214 ev214 => ?_)
                  refine g_pfi hIH196 sx_20 rfl (by omega) (fun H215 eH215 hIH215 => ?_)
                  have hJH215 : JX H215 := JX_sF eH215 hJH196
                  have e216 : k1_1 = fZ H215 1 1 := by rw [eH215, fZ_sF_nc (by omega)]; exact e197
                  have e217 : v154 = fZ H215 20 5 := by rw [eH215, fZ_sF_ne (by decide)]; exact e198
                  have e218 : v214 = fZ H215 20 6 := by rw [eH215, fZ_sF_eq hIH196 sx_20 rfl]
                  have ie217 : v154.toInt = (fZ H215 20 5).toInt := by rw [← e217]
                  have ie218 : v214.toInt = (fZ H215 20 6).toInt := by rw [← e218]
                  refine g_goto ?_
                  exact ihL199 H215 hIH215 hJH215 e216 e217 (by omega)
        exact L199 _ H192 hIH192 hJH192 e193 e194 (Nat.lt_succ_self _)
set_option maxRecDepth 4000 in
set_option maxHeartbeats 4000000 in
/-- X7.isLetter -/
theorem s_79 (H : mzH) (hI : gI SX H) (hJ : JX H) (hp0 : (fZ H 20 6).toInt ≤ 899) : gCall 79 [.ref 20] H (gRi (fun v H' => H = H' ∧ (0 ≤ v.toInt ∧ v.toInt ≤ 1))) := by
  refine gG_call [(0, .ref 20)] ⟨rfl, trivial⟩ ?_
  show gG 1 zB_79 (mzBlk zB_79 0) [(0, .ref 20)] [] H 0 0 _
  refine g_aload_n rfl ?_
  refine g_gfr hI sx_20 rfl ?_
  refine g_gfr hI sx_1 rfl ?_
  refine g_aload_n rfl ?_
  refine g_gfi hI sx_20 rfl (fun v37 ev37 lv37 uv37 => ?_)
  have iev37 : v37.toInt = (fZ H 20 6).toInt := by rw [← ev37]
  refine g_baload hI sx_2 rfl (by omega) (fun v38 ev38 lv38 uv38 => ?_)
  refine g_bipush (by decide) (fun v39 kv39 => ?_)
  refine g_if2_lt (fun c40 => ?_) (fun c40 => ?_)
  · refine g_iconst (by decide) (fun v41 kv41 => ?_)
    refine g_nop ?_
    exact g_zret (by omega) ⟨_, rfl, rfl, (by omega)⟩
  · refine g_aload_n rfl ?_
    refine g_gfr hI sx_20 rfl ?_
    refine g_gfr hI sx_1 rfl ?_
    refine g_aload_n rfl ?_
    refine g_gfk hI sx_20 rfl ev37 ?_
    refine g_baloadk hI sx_2 rfl (by omega) ev38 ?_
    refine g_bipush (by decide) (fun v42 kv42 => ?_)
    refine g_if2_gt (fun c43 => ?_) (fun c43 => ?_)
    · refine g_iconst (by decide) (fun v44 kv44 => ?_)
      refine g_nop ?_
      exact g_zret (by omega) ⟨_, rfl, rfl, (by omega)⟩
    · refine g_iconst (by decide) (fun v45 kv45 => ?_)
      refine g_goto ?_
      exact g_zret (by omega) ⟨_, rfl, rfl, (by omega)⟩
set_option maxRecDepth 4000 in
set_option maxHeartbeats 4000000 in
/-- X7.kindOfWord -/
theorem s_81 (H : mzH) (hI : gI SX H) (hJ : JX H) : gCall 81 [.ref 20] H (gRi (fun v H' => H = H')) := by
  refine gG_call [(0, .ref 20)] ⟨rfl, trivial⟩ ?_
  show gG 5 zB_81 (mzBlk zB_81 0) [(0, .ref 20)] [] H 0 0 _
  refine g_iconst (by decide) (fun v657 kv657 => ?_)
  refine g_istore_n (l' := [(0, .ref 20), (1, .int v657)]) rfl rfl ?_
  refine g_iconst (by decide) (fun v658 kv658 => ?_)
  refine g_istore_n (l' := [(0, .ref 20), (1, .int v657), (2, .int v658)]) rfl rfl ?_
  refine g_iconst (by decide) (fun v659 kv659 => ?_)
  refine g_istore_n (l' := [(0, .ref 20), (1, .int v657), (2, .int v658), (3, .int v659)]) rfl rfl ?_
  refine g_nop ?_
  have L663 : ∀ (N : Nat) (v660 : Int32) (v661 : Int32) (v662 : Int32), (0 ≤ v662.toInt ∧ v662.toInt ≤ 91) → (91 - v662.toInt).toNat < N → gG 5 zB_81 (mzBlk zB_81 1) [(0, .ref 20), (1, .int v660), (2, .int v661), (3, .int v662)] [] H 0 0 (gRi (fun v H' => H = H')) := by
    intro N
    induction N with
    | zero => intro v660 v661 v662 bv662 hmL663; exact absurd hmL663 (Nat.not_lt_zero _)
    | succ N ihL663 =>
      intro v660 v661 v662 bv662 hmL663
      refine g_iload_n rfl ?_
      refine g_strl (by decide) rfl (fun v664 kv664 => ?_)
      refine g_if2_ge (fun c665 => ?_) (fun c665 => ?_)
      · refine g_bipush (by decide) (fun v666 kv666 => ?_)
        exact g_iret ⟨_, rfl, rfl⟩
      · refine g_str1 (by decide) rfl rfl (by omega) (fun v667 ev667 lv667 uv667 dv667 => ?_)
        refine g_istore (l' := [(0, .ref 20), (1, .int v660), (2, .int v661), (3, .int v662), (4, .int v667)]) rfl rfl ?_
        refine g_iload rfl ?_
        refine g_bipush (by decide) (fun v668 kv668 => ?_)
        refine g_if2_eq (fun c669 => ?_) (fun c669 => ?_)
        · refine g_iload_n rfl ?_
          refine g_aload_n rfl ?_
          refine g_gfi hI sx_20 rfl (fun v670 ev670 lv670 uv670 => ?_)
          refine g_if2_ne (fun c671 => ?_) (fun c671 => ?_)
          · refine g_iinc' (l' := (fun v672 => [(0, .ref 20), (1, .int v672), (2, .int v661), (3, .int v662), (4, .int v667)])) rfl rfl (fun _ => rfl) (fun v672 => ?_)
            refine g_iconst (by decide) (fun v673 kv673 => ?_)
            refine g_istore_n (l' := [(0, .ref 20), (1, .int v672), (2, .int v673), (3, .int v662), (4, .int v667)]) rfl rfl ?_
            refine g_nop ?_
            refine g_iinc (l' := (fun v674 => [(0, .ref 20), (1, .int v672), (2, .int v673), (3, .int v674), (4, .int v667)])) rfl rfl (by decide) (by omega) (fun _ => rfl) (fun v674 ev674 => ?_)
            refine g_goto ?_
            refine gG_pick [0, 1, 2, 3] (l' := [(0, .ref 20), (1, .int v672), (2, .int v673), (3, .int v674)]) rfl ?_
            exact ihL663 v672 v673 v674 (by omega) (by omega)
          · refine g_iload_n rfl ?_
            exact g_iret ⟨_, rfl, rfl⟩
        · refine g_iload_n rfl ?_
          refine g_iconst (by decide) (fun v675 kv675 => ?_)
          refine g_ishl' (fun v676 _ => ?_)
          refine g_iload rfl ?_
          refine g_iadd' (fun v677 _ => ?_)
          refine g_bipush (by decide) (fun v678 kv678 => ?_)
          refine g_isub' (fun v679 _ => ?_)
          refine g_iconst (by decide) (fun v680 kv680 => ?_)
          refine g_iadd' (fun v681 _ => ?_)
          refine g_istore_n (l' := [(0, .ref 20), (1, .int v660), (2, .int v681), (3, .int v662), (4, .int v667)]) rfl rfl ?_
          refine g_goto ?_
          refine g_iinc (l' := (fun v682 => [(0, .ref 20), (1, .int v660), (2, .int v681), (3, .int v682), (4, .int v667)])) rfl rfl (by decide) (by omega) (fun _ => rfl) (fun v682 ev682 => ?_)
          refine g_goto ?_
          refine gG_pick [0, 1, 2, 3] (l' := [(0, .ref 20), (1, .int v660), (2, .int v681), (3, .int v682)]) rfl ?_
          exact ihL663 v660 v681 v682 (by omega) (by omega)
  exact L663 _ v657 v658 v659 (by omega) (Nat.lt_succ_self _)
set_option maxRecDepth 4000 in
set_option maxHeartbeats 4000000 in
/-- X7.passWord -/
theorem s_77 (H : mzH) (hI : gI SX H) (hJ : JX H) : gCall 77 [.ref 20] H (gRi (fun v H' => gI SX H' ∧ JX H' ∧ fZ H' 1 1 = fZ H 1 1)) := by
  obtain ⟨k1_1, ek1_1⟩ : ∃ z, z = fZ H 1 1 := ⟨_, rfl⟩
  have ik1_1 : k1_1.toInt = (fZ H 1 1).toInt := by rw [← ek1_1]
  have bk1_1 : 0 ≤ k1_1.toInt ∧ k1_1.toInt ≤ 900 := by rw [ek1_1]; exact fZ_of hI sx_1 rfl
  refine gG_call [(0, .ref 20)] ⟨rfl, trivial⟩ ?_
  show gG 2 zB_77 (mzBlk zB_77 0) [(0, .ref 20)] [] H 0 0 _
  refine g_aload_n rfl ?_
  refine g_gfi hI sx_20 rfl (fun v161 ev161 lv161 uv161 => ?_)
  have iev161 : v161.toInt = (fZ H 20 6).toInt := by rw [← ev161]
  refine g_istore_n (l' := [(0, .ref 20), (1, .int v161)]) rfl rfl ?_
  refine g_nop ?_
  have L164 : ∀ (N : Nat) (H162 : mzH), gI SX H162 → JX H162 → k1_1 = fZ H162 1 1 → (900 - (fZ H162 20 6).toInt).toNat < N → gG 2 zB_77 (mzBlk zB_77 1) [(0, .ref 20), (1, .int v161)] [] H162 0 0 (gRi (fun v H' => gI SX H' ∧ JX H' ∧ fZ H' 1 1 = fZ H 1 1)) := by
    intro N
    induction N with
    | zero => intro H162 hIH162 hJH162 e163 hmL164; exact absurd hmL164 (Nat.not_lt_zero _)
    | succ N ihL164 =>
      intro H162 hIH162 hJH162 e163 hmL164
      refine g_aload_n rfl ?_
      refine g_gfi hIH162 sx_20 rfl (fun v165 ev165 lv165 uv165 => ?_)
      have iev165 : v165.toInt = (fZ H162 20 6).toInt := by rw [← ev165]
      refine g_aload_n rfl ?_
      refine g_gfi hIH162 sx_20 rfl (fun v166 ev166 lv166 uv166 => ?_)
      have iev166 : v166.toInt = (fZ H162 20 5).toInt := by rw [← ev166]
      refine g_if2_ge (fun c167 => ?_) (fun c167 => ?_)
      · refine g_aload_n rfl ?_
        refine g_gfk hIH162 sx_20 rfl ev165 ?_
        refine g_iload_n rfl ?_
        refine g_isub (by omega) (fun v168 ev168 => ?_)
        refine g_bipush (by decide) (fun v169 kv169 => ?_)
        refine g_if2_le (fun c170 => ?_) (fun c170 => ?_)
        · refine g_aload_n rfl ?_
          refine g_invvi hIH162 sx_20 rfl rfl rfl rfl (s_81 H162 hIH162 hJH162) (fun v173 H171 r172 => ?_)
          obtain rfl := r172
          refine g_nop ?_
          exact g_iret ⟨_, rfl, hIH162, hJH162, (e163.symm.trans ek1_1)⟩
        · refine g_bipush (by decide) (fun v174 kv174 => ?_)
          refine g_goto ?_
          exact g_iret ⟨_, rfl, hIH162, hJH162, (e163.symm.trans ek1_1)⟩
      · refine g_aload_n rfl ?_
        refine g_invvi hIH162 sx_20 rfl rfl rfl rfl (s_79 H162 hIH162 hJH162 (by omega)) (fun v177 H175 r176 => ?_)
        obtain ⟨rfl, bv177⟩ := r176
        refine g_if_eq (fun c178 => ?_) (fun c178 => ?_)
        · refine g_aload_n rfl ?_
          refine g_gfk hIH162 sx_20 rfl ev165 ?_
          refine g_iload_n rfl ?_
          refine g_isub (by omega) (fun v179 ev179 => ?_)
          refine g_bipush (by decide) (fun v180 kv180 => ?_)
          refine g_if2_le (fun c181 => ?_) (fun c181 => ?_)
          · refine g_aload_n rfl ?_
            refine g_invvi hIH162 sx_20 rfl rfl rfl rfl (s_81 H162 hIH162 hJH162) (fun v184 H182 r183 => ?_)
            obtain rfl := r183
            refine g_nop ?_
            exact g_iret ⟨_, rfl, hIH162, hJH162, (e163.symm.trans ek1_1)⟩
          · refine g_bipush (by decide) (fun v185 kv185 => ?_)
            refine g_goto ?_
            exact g_iret ⟨_, rfl, hIH162, hJH162, (e163.symm.trans ek1_1)⟩
        · refine g_aload_n rfl ?_
          refine g_aload_n rfl ?_
          refine g_gfi hIH162 sx_20 rfl (fun v186 ev186 lv186 uv186 => ?_)
          refine g_iconst (by decide) (fun v187 kv187 => ?_)
          refine g_ishl' (fun v188 _ => ?_)
          refine g_aload_n rfl ?_
          refine g_gfr hIH162 sx_20 rfl ?_
          refine g_gfr hIH162 sx_1 rfl ?_
          refine g_aload_n rfl ?_
          refine g_gfk hIH162 sx_20 rfl ev165 ?_
          refine g_baload hIH162 sx_2 rfl (by omega) (fun v189 ev189 lv189 uv189 => ?_)
          refine g_iadd' (fun v190 _ => ?_)
          refine g_bipush (by decide) (fun v191 kv191 => ?_)
          refine g_isub' (fun v192 _ => ?_)
          refine g_iconst (by decide) (fun v193 kv193 => ?_)
          refine g_iadd' (fun v194 _ => ?_)
          refine g_pfi hIH162 sx_20 rfl (gz_any _) (fun H195 eH195 hIH195 => ?_)
          have hJH195 : JX H195 := JX_sF eH195 hJH162
          have e196 : k1_1 = fZ H195 1 1 := by rw [eH195, fZ_sF_nc (by omega)]; exact e163
          have e197 : v165 = fZ H195 20 6 := by rw [eH195, fZ_sF_ne (by decide)]; exact ev165
          have e198 : v166 = fZ H195 20 5 := by rw [eH195, fZ_sF_ne (by decide)]; exact ev166
          have ie197 : v165.toInt = (fZ H195 20 6).toInt := by rw [← e197]
          have ie198 : v166.toInt = (fZ H195 20 5).toInt := by rw [← e198]
          refine g_aload_n rfl ?_
          refine g_dup rfl ?_
          refine g_gfk hIH195 sx_20 rfl e197 ?_
          refine g_iconst (by decide) (fun v199 kv199 => ?_)
          refine g_iadd (by omega) (fun v200 ev200 => ?_)
          refine g_pfi hIH195 sx_20 rfl (by omega) (fun H201 eH201 hIH201 => ?_)
          have hJH201 : JX H201 := JX_sF eH201 hJH195
          have e202 : k1_1 = fZ H201 1 1 := by rw [eH201, fZ_sF_nc (by omega)]; exact e196
          have e203 : v166 = fZ H201 20 5 := by rw [eH201, fZ_sF_ne (by decide)]; exact e198
          have e204 : v200 = fZ H201 20 6 := by rw [eH201, fZ_sF_eq hIH195 sx_20 rfl]
          have ie203 : v166.toInt = (fZ H201 20 5).toInt := by rw [← e203]
          have ie204 : v200.toInt = (fZ H201 20 6).toInt := by rw [← e204]
          refine g_goto ?_
          exact ihL164 H201 hIH201 hJH201 e202 (by omega)
  exact L164 _ H hI hJ ek1_1 (Nat.lt_succ_self _)
set_option maxRecDepth 4000 in
set_option maxHeartbeats 4000000 in
/-- X7.isDigit -/
theorem s_80 (H : mzH) (hI : gI SX H) (hJ : JX H) (hp0 : (fZ H 20 6).toInt ≤ 899) : gCall 80 [.ref 20] H (gRi (fun v H' => H = H' ∧ (0 ≤ v.toInt ∧ v.toInt ≤ 1))) := by
  refine gG_call [(0, .ref 20)] ⟨rfl, trivial⟩ ?_
  show gG 1 zB_80 (mzBlk zB_80 0) [(0, .ref 20)] [] H 0 0 _
  refine g_aload_n rfl ?_
  refine g_gfr hI sx_20 rfl ?_
  refine g_gfr hI sx_1 rfl ?_
  refine g_aload_n rfl ?_
  refine g_gfi hI sx_20 rfl (fun v37 ev37 lv37 uv37 => ?_)
  have iev37 : v37.toInt = (fZ H 20 6).toInt := by rw [← ev37]
  refine g_baload hI sx_2 rfl (by omega) (fun v38 ev38 lv38 uv38 => ?_)
  refine g_bipush (by decide) (fun v39 kv39 => ?_)
  refine g_if2_lt (fun c40 => ?_) (fun c40 => ?_)
  · refine g_iconst (by decide) (fun v41 kv41 => ?_)
    refine g_nop ?_
    exact g_zret (by omega) ⟨_, rfl, rfl, (by omega)⟩
  · refine g_aload_n rfl ?_
    refine g_gfr hI sx_20 rfl ?_
    refine g_gfr hI sx_1 rfl ?_
    refine g_aload_n rfl ?_
    refine g_gfk hI sx_20 rfl ev37 ?_
    refine g_baloadk hI sx_2 rfl (by omega) ev38 ?_
    refine g_bipush (by decide) (fun v42 kv42 => ?_)
    refine g_if2_gt (fun c43 => ?_) (fun c43 => ?_)
    · refine g_iconst (by decide) (fun v44 kv44 => ?_)
      refine g_nop ?_
      exact g_zret (by omega) ⟨_, rfl, rfl, (by omega)⟩
    · refine g_iconst (by decide) (fun v45 kv45 => ?_)
      refine g_goto ?_
      exact g_zret (by omega) ⟨_, rfl, rfl, (by omega)⟩
set_option maxRecDepth 4000 in
set_option maxHeartbeats 4000000 in
/-- X7.passDigits -/
theorem s_78 (H : mzH) (hI : gI SX H) (hJ : JX H) : gCall 78 [.ref 20] H (gRv (fun H' => gI SX H' ∧ JX H' ∧ fZ H' 1 1 = fZ H 1 1)) := by
  obtain ⟨k1_1, ek1_1⟩ : ∃ z, z = fZ H 1 1 := ⟨_, rfl⟩
  have ik1_1 : k1_1.toInt = (fZ H 1 1).toInt := by rw [← ek1_1]
  have bk1_1 : 0 ≤ k1_1.toInt ∧ k1_1.toInt ≤ 900 := by rw [ek1_1]; exact fZ_of hI sx_1 rfl
  refine gG_call [(0, .ref 20)] ⟨rfl, trivial⟩ ?_
  show gG 1 zB_78 (mzBlk zB_78 0) [(0, .ref 20)] [] H 0 0 _
  refine g_aload_n rfl ?_
  refine g_gfi hI sx_20 rfl (fun v201 ev201 lv201 uv201 => ?_)
  have iev201 : v201.toInt = (fZ H 20 6).toInt := by rw [← ev201]
  refine g_aload_n rfl ?_
  refine g_gfi hI sx_20 rfl (fun v202 ev202 lv202 uv202 => ?_)
  have iev202 : v202.toInt = (fZ H 20 5).toInt := by rw [← ev202]
  refine g_if2_ge (fun c203 => ?_) (fun c203 => ?_)
  · exact g_ret ⟨rfl, hI, hJ, (ek1_1.symm.trans ek1_1)⟩
  · refine g_aload_n rfl ?_
    refine g_invvi hI sx_20 rfl rfl rfl rfl (s_80 H hI hJ (by omega)) (fun v206 H204 r205 => ?_)
    obtain ⟨rfl, bv206⟩ := r205
    refine g_if_eq (fun c207 => ?_) (fun c207 => ?_)
    · exact g_ret ⟨rfl, hI, hJ, (ek1_1.symm.trans ek1_1)⟩
    · refine g_aload_n rfl ?_
      refine g_aload_n rfl ?_
      refine g_gfi hI sx_20 rfl (fun v208 ev208 lv208 uv208 => ?_)
      refine g_bipush (by decide) (fun v209 kv209 => ?_)
      refine g_imul' (fun v210 _ => ?_)
      refine g_aload_n rfl ?_
      refine g_gfr hI sx_20 rfl ?_
      refine g_gfr hI sx_1 rfl ?_
      refine g_aload_n rfl ?_
      refine g_gfk hI sx_20 rfl ev201 ?_
      refine g_baload hI sx_2 rfl (by omega) (fun v211 ev211 lv211 uv211 => ?_)
      refine g_iadd' (fun v212 _ => ?_)
      refine g_bipush (by decide) (fun v213 kv213 => ?_)
      refine g_isub' (fun v214 _ => ?_)
      refine g_ldc (by decide) (fun v215 kv215 => ?_)
      refine g_min rfl (fun v216 av216 bv216 dv216 => ?_)
      refine g_pfi hI sx_20 rfl (gz_any _) (fun H217 eH217 hIH217 => ?_)
      have hJH217 : JX H217 := JX_sF eH217 hJ
      have e218 : k1_1 = fZ H217 1 1 := by rw [eH217, fZ_sF_nc (by omega)]; exact ek1_1
      have e219 : v201 = fZ H217 20 6 := by rw [eH217, fZ_sF_ne (by decide)]; exact ev201
      have e220 : v202 = fZ H217 20 5 := by rw [eH217, fZ_sF_ne (by decide)]; exact ev202
      have ie219 : v201.toInt = (fZ H217 20 6).toInt := by rw [← e219]
      have ie220 : v202.toInt = (fZ H217 20 5).toInt := by rw [← e220]
      refine g_aload_n rfl ?_
      refine g_dup rfl ?_
      refine g_gfk hIH217 sx_20 rfl e219 ?_
      refine g_iconst (by decide) (fun v221 kv221 => ?_)
      refine g_iadd (by omega) (fun v222 ev222 => ?_)
      refine g_pfi hIH217 sx_20 rfl (by omega) (fun H223 eH223 hIH223 => ?_)
      have hJH223 : JX H223 := JX_sF eH223 hJH217
      have e224 : k1_1 = fZ H223 1 1 := by rw [eH223, fZ_sF_nc (by omega)]; exact e218
      have e225 : v202 = fZ H223 20 5 := by rw [eH223, fZ_sF_ne (by decide)]; exact e220
      have e226 : v222 = fZ H223 20 6 := by rw [eH223, fZ_sF_eq hIH217 sx_20 rfl]
      have ie225 : v202.toInt = (fZ H223 20 5).toInt := by rw [← e225]
      have ie226 : v222.toInt = (fZ H223 20 6).toInt := by rw [← e226]
      refine g_goto ?_
      have L230 : ∀ (N : Nat) (H227 : mzH), gI SX H227 → JX H227 → k1_1 = fZ H227 1 1 → v202 = fZ H227 20 5 → (900 - (fZ H227 20 6).toInt).toNat < N → gG 1 zB_78 (mzBlk zB_78 0) [(0, .ref 20)] [] H227 0 0 (gRv (fun H' => gI SX H' ∧ JX H' ∧ fZ H' 1 1 = fZ H 1 1)) := by
        intro N
        induction N with
        | zero => intro H227 hIH227 hJH227 e228 e229 hmL230; exact absurd hmL230 (Nat.not_lt_zero _)
        | succ N ihL230 =>
          intro H227 hIH227 hJH227 e228 e229 hmL230
          refine g_aload_n rfl ?_
          refine g_gfi hIH227 sx_20 rfl (fun v231 ev231 lv231 uv231 => ?_)
          have iev231 : v231.toInt = (fZ H227 20 6).toInt := by rw [← ev231]
          refine g_aload_n rfl ?_
          refine g_gfk hIH227 sx_20 rfl e229 ?_
          refine g_if2_ge (fun c232 => ?_) (fun c232 => ?_)
          · exact g_ret ⟨rfl, hIH227, hJH227, (e228.symm.trans ek1_1)⟩
          · refine g_aload_n rfl ?_
            refine g_invvi hIH227 sx_20 rfl rfl rfl rfl (s_80 H227 hIH227 hJH227 (by omega)) (fun v235 H233 r234 => ?_)
            obtain ⟨rfl, bv235⟩ := r234
            refine g_if_eq (fun c236 => ?_) (fun c236 => ?_)
            · exact g_ret ⟨rfl, hIH227, hJH227, (e228.symm.trans ek1_1)⟩
            · refine g_aload_n rfl ?_
              refine g_aload_n rfl ?_
              refine g_gfi hIH227 sx_20 rfl (fun v237 ev237 lv237 uv237 => ?_)
              refine g_bipush (by decide) (fun v238 kv238 => ?_)
              refine g_imul' (fun v239 _ => ?_)
              refine g_aload_n rfl ?_
              refine g_gfr hIH227 sx_20 rfl ?_
              refine g_gfr hIH227 sx_1 rfl ?_
              refine g_aload_n rfl ?_
              refine g_gfk hIH227 sx_20 rfl ev231 ?_
              refine g_baload hIH227 sx_2 rfl (by omega) (fun v240 ev240 lv240 uv240 => ?_)
              refine g_iadd' (fun v241 _ => ?_)
              refine g_bipush (by decide) (fun v242 kv242 => ?_)
              refine g_isub' (fun v243 _ => ?_)
              refine g_ldc (by decide) (fun v244 kv244 => ?_)
              refine g_min rfl (fun v245 av245 bv245 dv245 => ?_)
              refine g_pfi hIH227 sx_20 rfl (gz_any _) (fun H246 eH246 hIH246 => ?_)
              have hJH246 : JX H246 := JX_sF eH246 hJH227
              have e247 : k1_1 = fZ H246 1 1 := by rw [eH246, fZ_sF_nc (by omega)]; exact e228
              have e248 : v202 = fZ H246 20 5 := by rw [eH246, fZ_sF_ne (by decide)]; exact e229
              have e249 : v231 = fZ H246 20 6 := by rw [eH246, fZ_sF_ne (by decide)]; exact ev231
              have ie248 : v202.toInt = (fZ H246 20 5).toInt := by rw [← e248]
              have ie249 : v231.toInt = (fZ H246 20 6).toInt := by rw [← e249]
              refine g_aload_n rfl ?_
              refine g_dup rfl ?_
              refine g_gfk hIH246 sx_20 rfl e249 ?_
              refine g_iconst (by decide) (fun v250 kv250 => ?_)
              refine g_iadd (by omega) (fun v251 ev251 => ?_)
              refine g_pfi hIH246 sx_20 rfl (by omega) (fun H252 eH252 hIH252 => ?_)
              have hJH252 : JX H252 := JX_sF eH252 hJH246
              have e253 : k1_1 = fZ H252 1 1 := by rw [eH252, fZ_sF_nc (by omega)]; exact e247
              have e254 : v202 = fZ H252 20 5 := by rw [eH252, fZ_sF_ne (by decide)]; exact e248
              have e255 : v251 = fZ H252 20 6 := by rw [eH252, fZ_sF_eq hIH246 sx_20 rfl]
              have ie254 : v202.toInt = (fZ H252 20 5).toInt := by rw [← e254]
              have ie255 : v251.toInt = (fZ H252 20 6).toInt := by rw [← e255]
              refine g_goto ?_
              exact ihL230 H252 hIH252 hJH252 e253 e254 (by omega)
      exact L230 _ H223 hIH223 hJH223 e224 e225 (Nat.lt_succ_self _)
set_option maxRecDepth 4000 in
set_option maxHeartbeats 4000000 in
/-- X7.passToken -/
theorem s_76 (H : mzH) (hI : gI SX H) (hJ : JX H) (hp0 : (fZ H 20 6).toInt ≤ 899) : gCall 76 [.ref 20] H (gRi (fun v H' => gI SX H' ∧ JX H' ∧ fZ H' 1 1 = fZ H 1 1)) := by
  obtain ⟨k1_1, ek1_1⟩ : ∃ z, z = fZ H 1 1 := ⟨_, rfl⟩
  have ik1_1 : k1_1.toInt = (fZ H 1 1).toInt := by rw [← ek1_1]
  have bk1_1 : 0 ≤ k1_1.toInt ∧ k1_1.toInt ≤ 900 := by rw [ek1_1]; exact fZ_of hI sx_1 rfl
  obtain ⟨k20_6, ek20_6⟩ : ∃ z, z = fZ H 20 6 := ⟨_, rfl⟩
  have ik20_6 : k20_6.toInt = (fZ H 20 6).toInt := by rw [← ek20_6]
  have bk20_6 : 0 ≤ k20_6.toInt ∧ k20_6.toInt ≤ 900 := by rw [ek20_6]; exact fZ_of hI sx_20 rfl
  refine gG_call [(0, .ref 20)] ⟨rfl, trivial⟩ ?_
  show gG 1 zB_76 (mzBlk zB_76 0) [(0, .ref 20)] [] H 0 0 _
  refine g_aload_n rfl ?_
  refine g_invvi hI sx_20 rfl rfl rfl rfl (s_79 H hI hJ (by omega)) (fun v123 H121 r122 => ?_)
  obtain ⟨rfl, bv123⟩ := r122
  refine g_if_eq (fun c124 => ?_) (fun c124 => ?_)
  · refine g_aload_n rfl ?_
    refine g_invvi hI sx_20 rfl rfl rfl rfl (s_80 H hI hJ (by omega)) (fun v127 H125 r126 => ?_)
    obtain ⟨rfl, bv127⟩ := r126
    refine g_if_eq (fun c128 => ?_) (fun c128 => ?_)
    · refine g_aload_n rfl ?_
      refine g_dup rfl ?_
      refine g_gfk hI sx_20 rfl ek20_6 ?_
      refine g_iconst (by decide) (fun v129 kv129 => ?_)
      refine g_iadd (by omega) (fun v130 ev130 => ?_)
      refine g_pfi hI sx_20 rfl (by omega) (fun H131 eH131 hIH131 => ?_)
      have hJH131 : JX H131 := JX_sF eH131 hJ
      have e132 : k1_1 = fZ H131 1 1 := by rw [eH131, fZ_sF_nc (by omega)]; exact ek1_1
      have e133 : v130 = fZ H131 20 6 := by rw [eH131, fZ_sF_eq hI sx_20 rfl]
      have ie133 : v130.toInt = (fZ H131 20 6).toInt := by rw [← e133]
      refine g_aload_n rfl ?_
      refine g_gfr hIH131 sx_20 rfl ?_
      refine g_gfr hIH131 sx_1 rfl ?_
      refine g_aload_n rfl ?_
      refine g_gfk hIH131 sx_20 rfl e133 ?_
      refine g_iconst (by decide) (fun v134 kv134 => ?_)
      refine g_isub (by omega) (fun v135 ev135 => ?_)
      refine g_baload hIH131 sx_2 rfl (by omega) (fun v136 ev136 lv136 uv136 => ?_)
      refine g_bipush (by decide) (fun v137 kv137 => ?_)
      refine g_if2_ne (fun c138 => ?_) (fun c138 => ?_)
      · refine g_bipush (by decide) (fun v139 kv139 => ?_)
        refine g_nop ?_
        exact g_iret ⟨_, rfl, hIH131, hJH131, (e132.symm.trans ek1_1)⟩
      · refine g_bipush (by decide) (fun v140 kv140 => ?_)
        refine g_goto ?_
        exact g_iret ⟨_, rfl, hIH131, hJH131, (e132.symm.trans ek1_1)⟩
    · refine g_aload_n rfl ?_
      refine g_invvv hI sx_20 rfl rfl rfl rfl (s_78 H hI hJ) (fun H141 r142 => ?_)
      obtain ⟨hIH141, hJH141, w143⟩ := r142
      have e144 : k1_1 = fZ H141 1 1 := ek1_1.trans w143.symm
      refine g_bipush (by decide) (fun v145 kv145 => ?_)
      exact g_iret ⟨_, rfl, hIH141, hJH141, (e144.symm.trans ek1_1)⟩
  · refine g_aload_n rfl ?_
    refine g_invvi hI sx_20 rfl rfl rfl rfl (s_77 H hI hJ) (fun v148 H146 r147 => ?_)
    obtain ⟨hIH146, hJH146, w149⟩ := r147
    have e150 : k1_1 = fZ H146 1 1 := ek1_1.trans w149.symm
    exact g_iret ⟨_, rfl, hIH146, hJH146, (e150.symm.trans ek1_1)⟩
