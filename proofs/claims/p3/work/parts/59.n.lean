set_option maxRecDepth 4000 in
set_option maxHeartbeats 4000000 in
/-- M.hours -/
theorem s_179 (a1 : Int32) (a2 : Int32) (H : mzH) (hI : gI SM H) (hJ : JN H) : gCall 179 [.ref 0, .int a1, .int a2] H (gRi (fun v H' => gI SM H' ∧ JN H' ∧ fZ H' 0 2 = fZ H 0 2)) := by
  obtain ⟨k0_2, ek0_2⟩ : ∃ z, z = fZ H 0 2 := ⟨_, rfl⟩
  have ik0_2 : k0_2.toInt = (fZ H 0 2).toInt := by rw [← ek0_2]
  have bk0_2 : 0 ≤ k0_2.toInt ∧ k0_2.toInt ≤ 900 := by rw [ek0_2]; exact fZ_of hI sm_0 rfl
  refine gG_call [(0, .ref 0), (1, .int a1), (2, .int a2)] ⟨rfl, rfl, rfl, trivial⟩ ?_
  show gG 3 zB_179 (mzBlk zB_179 0) [(0, .ref 0), (1, .int a1), (2, .int a2)] [] H 0 0 _
  refine g_aload_n rfl ?_
  refine g_iconst (by decide) (fun v105 kv105 => ?_)
  refine g_pfi hI sm_0 rfl (gz_any _) (fun H106 eH106 hIH106 => ?_)
  have hJH106 : JN H106 := JN_sF eH106 hJ
  have e107 : k0_2 = fZ H106 0 2 := by rw [eH106, fZ_sF_ne (by decide)]; exact ek0_2
  refine g_aload_n rfl ?_
  refine g_iload_n rfl ?_
  refine g_invvi hIH106 sm_0 rfl rfl rfl rfl (s_210 a1 H106 hIH106 hJH106) (fun v110 H108 r109 => ?_)
  obtain ⟨rfl, bv110, p111⟩ := r109
  refine g_if_eq (fun c112 => ?_) (fun c112 => ?_)
  · refine g_iconst (by decide) (fun v113 kv113 => ?_)
    exact g_iret ⟨_, rfl, hIH106, hJH106, (e107.symm.trans ek0_2)⟩
  · refine g_aload_n rfl ?_
    refine g_iload_n rfl ?_
    refine g_invvi hIH106 sm_0 rfl rfl rfl rfl (s_210 a2 H106 hIH106 hJH106) (fun v116 H114 r115 => ?_)
    obtain ⟨rfl, bv116, p117⟩ := r115
    refine g_if_ne (fun c118 => ?_) (fun c118 => ?_)
    · refine g_aload_n rfl ?_
      refine g_gfr hIH106 sm_0 rfl ?_
      refine g_bipush (by decide) (fun v119 kv119 => ?_)
      refine g_iload_n rfl ?_
      refine g_imulk' (n := 8) kv119 (by omega) (fun v120 ev120 => ?_)
      refine g_iload_n rfl ?_
      refine g_iadd (by omega) (fun v121 ev121 => ?_)
      refine g_iaload hIH106 sm_6 rfl (by omega) (fun v122 ev122 lv122 uv122 => ?_)
      refine g_ldc (by decide) (fun v123 kv123 => ?_)
      refine g_if2_lt (fun c124 => ?_) (fun c124 => ?_)
      · refine g_aload_n rfl ?_
        refine g_gfr hIH106 sm_0 rfl ?_
        refine g_bipush (by decide) (fun v125 kv125 => ?_)
        refine g_iload_n rfl ?_
        refine g_imulk' (n := 8) kv125 (by omega) (fun v126 ev126 => ?_)
        refine g_iload_n rfl ?_
        refine g_iadd (by omega) (fun v127 ev127 => ?_)
        refine g_iaload hIH106 sm_6 rfl (by omega) (fun v128 ev128 lv128 uv128 => ?_)
        refine g_nop ?_
        exact g_iret ⟨_, rfl, hIH106, hJH106, (e107.symm.trans ek0_2)⟩
      · refine g_bipush (by decide) (fun v129 kv129 => ?_)
        refine g_goto ?_
        exact g_iret ⟨_, rfl, hIH106, hJH106, (e107.symm.trans ek0_2)⟩
    · refine g_nop ?_
      refine g_iconst (by decide) (fun v130 kv130 => ?_)
      exact g_iret ⟨_, rfl, hIH106, hJH106, (e107.symm.trans ek0_2)⟩
set_option maxRecDepth 4000 in
set_option maxHeartbeats 4000000 in
/-- M.messages -/
theorem s_180 (H : mzH) (hI : gI SM H) (hJ : JN H) : gCall 180 [.ref 0] H (gRi (fun v H' => H = H' ∧ (0 ≤ v.toInt ∧ v.toInt ≤ 60) ∧ v.toInt = (aZ H 2 2).toInt)) := by
  refine gG_call [(0, .ref 0)] ⟨rfl, trivial⟩ ?_
  show gG 1 zB_180 (mzBlk zB_180 0) [(0, .ref 0)] [] H 0 0 _
  refine g_aload_n rfl ?_
  refine g_gfr hI sm_0 rfl ?_
  refine g_iconst (by decide) (fun v9 kv9 => ?_)
  refine g_iaload hI sm_2 rfl (by omega) (fun v10 ev10 lv10 uv10 => ?_)
  have qv10 := JN_n22 hJ (v := v10) (by rw [ev10, show v9.toInt.toNat = 2 from by omega])
  exact g_iret ⟨_, rfl, rfl, (by omega), (by rw [ev10, show v9.toInt.toNat = 2 from by omega])⟩
set_option maxRecDepth 4000 in
set_option maxHeartbeats 4000000 in
/-- M.told -/
theorem s_181 (a1 : Int32) (ha1 : 0 ≤ a1.toInt ∧ a1.toInt ≤ 59) (a2 : Int32) (ha2 : 0 ≤ a2.toInt ∧ a2.toInt ≤ 4) (H : mzH) (hI : gI SM H) (hJ : JN H) : gCall 181 [.ref 0, .int a1, .int a2] H (gRi (fun v H' => H = H' ∧ v = aZ H 2 (69 + 5 * a1.toInt + a2.toInt).toNat)) := by
  refine gG_call [(0, .ref 0), (1, .int a1), (2, .int a2)] ⟨rfl, rfl, rfl, trivial⟩ ?_
  show gG 3 zB_181 (mzBlk zB_181 0) [(0, .ref 0), (1, .int a1), (2, .int a2)] [] H 0 0 _
  refine g_aload_n rfl ?_
  refine g_gfr hI sm_0 rfl ?_
  refine g_bipush (by decide) (fun v25 kv25 => ?_)
  refine g_iconst (by decide) (fun v26 kv26 => ?_)
  refine g_iload_n rfl ?_
  refine g_imulk' (n := 5) kv26 (by omega) (fun v27 ev27 => ?_)
  refine g_iadd (by omega) (fun v28 ev28 => ?_)
  refine g_iload_n rfl ?_
  refine g_iadd (by omega) (fun v29 ev29 => ?_)
  refine g_iaload hI sm_2 rfl (by omega) (fun v30 ev30 lv30 uv30 => ?_)
  exact g_iret ⟨_, rfl, rfl, (by rw [ev30, show v29.toInt = 69 + 5 * a1.toInt + a2.toInt from by omega])⟩
set_option maxRecDepth 4000 in
set_option maxHeartbeats 4000000 in
/-- M.takesAll -/
theorem s_182 (H : mzH) (hI : gI SM H) (hJ : JN H) : gCall 182 [.ref 0] H (gRv (fun H' => gI SM H' ∧ JN H' ∧ (∀ a f, fZ H' a f = fZ H a f) ∧ (∀ i, aZ H' 2 i = aZ H 2 i) ∧ (∀ q : Nat, (q : Int) < (aZ H' 2 2).toInt → ¬ (aZ H' 17 q).toInt = 0))) := by
  have mkF : ∀ a f, fZ H a f = fZ H a f := fun _ _ => rfl
  have mk2 : ∀ i, aZ H 2 i = aZ H 2 i := fun _ => rfl
  refine gG_call [(0, .ref 0)] ⟨rfl, trivial⟩ ?_
  show gG 2 zB_182 (mzBlk zB_182 0) [(0, .ref 0)] [] H 0 0 _
  refine g_iconst (by decide) (fun v271 kv271 => ?_)
  refine g_istore_n (l' := [(0, .ref 0), (1, .int v271)]) rfl rfl ?_
  refine g_nop ?_
  have L276 : ∀ (N : Nat) (v272 : Int32) (H273 : mzH), gI SM H273 → JN H273 → (∀ a f, fZ H273 a f = fZ H a f) → (∀ i, aZ H273 2 i = aZ H 2 i) → (0 ≤ v272.toInt ∧ v272.toInt ≤ 60) → (∀ q : Nat, q < v272.toInt.toNat → ¬ (aZ H273 17 q).toInt = 0) → (60 - v272.toInt).toNat < N → gG 2 zB_182 (mzBlk zB_182 1) [(0, .ref 0), (1, .int v272)] [] H273 0 0 (gRv (fun H' => gI SM H' ∧ JN H' ∧ (∀ a f, fZ H' a f = fZ H a f) ∧ (∀ i, aZ H' 2 i = aZ H 2 i) ∧ (∀ q : Nat, (q : Int) < (aZ H' 2 2).toInt → ¬ (aZ H' 17 q).toInt = 0))) := by
    intro N
    induction N with
    | zero => intro v272 H273 hIH273 hJH273 m274 m275 bv272 q1 hmL276; exact absurd hmL276 (Nat.not_lt_zero _)
    | succ N ihL276 =>
      intro v272 H273 hIH273 hJH273 m274 m275 bv272 q1 hmL276
      refine g_iload_n rfl ?_
      refine g_aload_n rfl ?_
      refine g_invvi hIH273 sm_0 rfl rfl rfl rfl (s_180 H273 hIH273 hJH273) (fun v279 H277 r278 => ?_)
      obtain ⟨rfl, bv279, p280⟩ := r278
      refine g_if2_ge (fun c281 => ?_) (fun c281 => ?_)
      · exact g_ret ⟨rfl, hIH273, hJH273, m274, m275, (fun q hq => q1 q (by omega))⟩
      · refine g_aload_n rfl ?_
        refine g_gfr hIH273 sm_0 rfl ?_
        refine g_iload_n rfl ?_
        refine g_iconst (by decide) (fun v282 kv282 => ?_)
        refine g_zastore hIH273 sm_17 (by omega) (by omega) (fun H283 eH283 hIH283 => ?_)
        have hJH283 : JN H283 := JN_sA (by decide) eH283 hJH273
        have m284 : ∀ a f, fZ H283 a f = fZ H a f := fun a f => (by rw [eH283, fZ_sA] : fZ H283 a f = fZ H273 a f).trans (m274 a f)
        have m285 : ∀ i, aZ H283 2 i = aZ H 2 i := fun i => (by rw [eH283, aZ_sA_nc (by omega)] : aZ H283 2 i = aZ H273 2 i).trans (m275 i)
        refine g_aload_n rfl ?_
        refine g_gfr hIH283 sm_0 rfl ?_
        refine g_iload_n rfl ?_
        refine g_aload_n rfl ?_
        refine g_iload_n rfl ?_
        refine g_iconst (by decide) (fun v286 kv286 => ?_)
        refine g_invvi hIH283 sm_0 rfl rfl rfl rfl (s_181 v272 (by omega) v286 (by omega) H283 hIH283 hJH283) (fun v289 H287 r288 => ?_)
        obtain ⟨rfl, p290⟩ := r288
        have tv289 : v289 = aZ H283 2 (69 + 5 * v272.toInt + 0).toNat := by rw [p290, kv286]
        refine g_iastore hIH283 sm_18 (by omega) (gz_any _) (fun H291 eH291 hIH291 => ?_)
        have hJH291 : JN H291 := JN_sA (by decide) eH291 hJH283
        have m292 : ∀ a f, fZ H291 a f = fZ H a f := fun a f => (by rw [eH291, fZ_sA] : fZ H291 a f = fZ H283 a f).trans (m284 a f)
        have m293 : ∀ i, aZ H291 2 i = aZ H 2 i := fun i => (by rw [eH291, aZ_sA_nc (by omega)] : aZ H291 2 i = aZ H283 2 i).trans (m285 i)
        refine g_iinc (l' := (fun v294 => [(0, .ref 0), (1, .int v294)])) rfl rfl (by decide) (by omega) (fun _ => rfl) (fun v294 ev294 => ?_)
        refine g_goto ?_
        exact ihL276 v294 H291 hIH291 hJH291 m292 m293 (by omega) (fun q hq => by rw [eH291, aZ_sA_nc (by decide), eH283]; if e : v272.toInt.toNat = q then (subst e; rw [aZ_sA_eq hIH273 sm_17 (by omega)]; omega) else (rw [aZ_sA_ne e]; exact q1 q (by omega))) (by omega)
  exact L276 _ v271 H hI hJ mkF mk2 (by omega) (fun q hq => absurd hq (by omega)) (Nat.lt_succ_self _)
set_option maxRecDepth 4000 in
set_option maxHeartbeats 4000000 in
/-- M.sorts -/
theorem s_183 (H : mzH) (hI : gI SM H) (hJ : JM H) : gCall 183 [.ref 0] H (gRv (fun H' => gI SM H' ∧ JM H' ∧ fZ H' 0 2 = fZ H 0 2 ∧ (∀ i, aZ H' 2 i = aZ H 2 i) ∧ (∀ i, aZ H' 17 i = aZ H 17 i) ∧ pmA H' (aZ H' 2 2).toInt 60)) := by
  obtain ⟨k0_2, ek0_2⟩ : ∃ z, z = fZ H 0 2 := ⟨_, rfl⟩
  have ik0_2 : k0_2.toInt = (fZ H 0 2).toInt := by rw [← ek0_2]
  have bk0_2 : 0 ≤ k0_2.toInt ∧ k0_2.toInt ≤ 900 := by rw [ek0_2]; exact fZ_of hI sm_0 rfl
  have mk2 : ∀ i, aZ H 2 i = aZ H 2 i := fun _ => rfl
  have mk17 : ∀ i, aZ H 17 i = aZ H 17 i := fun _ => rfl
  refine gG_call [(0, .ref 0)] ⟨rfl, trivial⟩ ?_
  show gG 3 zB_183 (mzBlk zB_183 0) [(0, .ref 0)] [] H 0 0 _
  refine g_aload_n rfl ?_
  refine g_iconst (by decide) (fun v702 kv702 => ?_)
  refine g_pfi hI sm_0 rfl (by omega) (fun H703 eH703 hIH703 => ?_)
  have hJH703 : JM H703 := JM_sF eH703 hJ
  have e704 : k0_2 = fZ H703 0 2 := by rw [eH703, fZ_sF_ne (by decide)]; exact ek0_2
  have e705 : v702 = fZ H703 0 34 := by rw [eH703, fZ_sF_eq hI sm_0 rfl]
  have m706 : ∀ i, aZ H703 2 i = aZ H 2 i := fun i => (by rw [eH703, aZ_sF] : aZ H703 2 i = aZ H 2 i).trans (mk2 i)
  have m707 : ∀ i, aZ H703 17 i = aZ H 17 i := fun i => (by rw [eH703, aZ_sF] : aZ H703 17 i = aZ H 17 i).trans (mk17 i)
  have ie705 : v702.toInt = (fZ H703 0 34).toInt := by rw [← e705]
  refine g_iconst (by decide) (fun v708 kv708 => ?_)
  refine g_istore_n (l' := [(0, .ref 0), (1, .int v708)]) rfl rfl ?_
  refine g_nop ?_
  have L714 : ∀ (N : Nat) (v709 : Int32) (H710 : mzH), gI SM H710 → JM H710 → k0_2 = fZ H710 0 2 → (∀ i, aZ H710 2 i = aZ H 2 i) → (∀ i, aZ H710 17 i = aZ H 17 i) → (0 ≤ v709.toInt ∧ v709.toInt ≤ 60) → (fZ H710 0 34).toInt ≤ v709.toInt → pmA H710 v709.toInt (fZ H710 0 34).toInt → (60 - v709.toInt).toNat < N → gG 3 zB_183 (mzBlk zB_183 1) [(0, .ref 0), (1, .int v709)] [] H710 0 0 (gRv (fun H' => gI SM H' ∧ JM H' ∧ fZ H' 0 2 = fZ H 0 2 ∧ (∀ i, aZ H' 2 i = aZ H 2 i) ∧ (∀ i, aZ H' 17 i = aZ H 17 i) ∧ pmA H' (aZ H' 2 2).toInt 60)) := by
    intro N
    induction N with
    | zero => intro v709 H710 hIH710 hJH710 e711 m712 m713 bv709 q1 q2 hmL714; exact absurd hmL714 (Nat.not_lt_zero _)
    | succ N ihL714 =>
      intro v709 H710 hIH710 hJH710 e711 m712 m713 bv709 q1 q2 hmL714
      obtain ⟨k715, ek715⟩ : ∃ z, z = fZ H710 0 34 := ⟨_, rfl⟩
      have ik715 : k715.toInt = (fZ H710 0 34).toInt := by rw [← ek715]
      have bk715 : 0 ≤ k715.toInt ∧ k715.toInt ≤ 60 := by rw [ek715]; exact fZ_of hIH710 sm_0 rfl
      refine g_iload_n rfl ?_
      refine g_aload_n rfl ?_
      refine g_invvi hIH710 sm_0 rfl rfl rfl rfl (s_180 H710 hIH710 (JM_n hJH710)) (fun v718 H716 r717 => ?_)
      obtain ⟨rfl, bv718, p719⟩ := r717
      refine g_if2_ge (fun c720 => ?_) (fun c720 => ?_)
      · exact g_ret ⟨rfl, hIH710, hJH710, (e711.symm.trans ek0_2), m712, m713, (pmA_le q2 (by omega) (by omega))⟩
      · refine g_aload_n rfl ?_
        refine g_gfr hIH710 sm_0 rfl ?_
        refine g_iload_n rfl ?_
        refine g_baload hIH710 sm_17 rfl (by omega) (fun v721 ev721 lv721 uv721 => ?_)
        refine g_if_ne (fun c722 => ?_) (fun c722 => ?_)
        · refine g_aload_n rfl ?_
          refine g_gfk hIH710 sm_0 rfl ek715 ?_
          refine g_istore_n (l' := [(0, .ref 0), (1, .int v709), (2, .int k715)]) rfl rfl ?_
          refine g_nop ?_
          have L729 : ∀ (N : Nat) (v723 : Int32) (H724 : mzH), gI SM H724 → JM H724 → k0_2 = fZ H724 0 2 → k715 = fZ H724 0 34 → (∀ i, aZ H724 2 i = aZ H 2 i) → (∀ i, aZ H724 17 i = aZ H 17 i) → (0 ≤ v723.toInt ∧ v723.toInt ≤ 60) → pmB H724 v709.toInt k715.toInt v723.toInt → v723.toInt ≤ k715.toInt → (v723.toInt - (0)).toNat < N → gG 3 zB_183 (mzBlk zB_183 3) [(0, .ref 0), (1, .int v709), (2, .int v723)] [] H724 0 0 (gRv (fun H' => gI SM H' ∧ JM H' ∧ fZ H' 0 2 = fZ H 0 2 ∧ (∀ i, aZ H' 2 i = aZ H 2 i) ∧ (∀ i, aZ H' 17 i = aZ H 17 i) ∧ pmA H' (aZ H' 2 2).toInt 60)) := by
            intro N
            induction N with
            | zero => intro v723 H724 hIH724 hJH724 e725 e726 m727 m728 bv723 q3 q4 hmL729; exact absurd hmL729 (Nat.not_lt_zero _)
            | succ N ihL729 =>
              intro v723 H724 hIH724 hJH724 e725 e726 m727 m728 bv723 q3 q4 hmL729
              refine g_iload_n rfl ?_
              refine g_if_le (fun c730 => ?_) (fun c730 => ?_)
              · refine g_aload_n rfl ?_
                refine g_gfr hIH724 sm_0 rfl ?_
                refine g_iload_n rfl ?_
                refine g_iload_n rfl ?_
                refine g_iastore hIH724 sm_19 (by omega) (by omega) (fun H731 eH731 hIH731 => ?_)
                have hJH731 : JM H731 := JM_sA (by decide) eH731 hJH724
                have e732 : k0_2 = fZ H731 0 2 := by rw [eH731, fZ_sA]; exact e725
                have e733 : k715 = fZ H731 0 34 := by rw [eH731, fZ_sA]; exact e726
                have m734 : ∀ i, aZ H731 2 i = aZ H 2 i := fun i => (by rw [eH731, aZ_sA_nc (by omega)] : aZ H731 2 i = aZ H724 2 i).trans (m727 i)
                have m735 : ∀ i, aZ H731 17 i = aZ H 17 i := fun i => (by rw [eH731, aZ_sA_nc (by omega)] : aZ H731 17 i = aZ H724 17 i).trans (m728 i)
                have ie733 : k715.toInt = (fZ H731 0 34).toInt := by rw [← e733]
                refine g_aload_n rfl ?_
                refine g_dup rfl ?_
                refine g_gfk hIH731 sm_0 rfl e733 ?_
                refine g_iconst (by decide) (fun v736 kv736 => ?_)
                refine g_iadd (by omega) (fun v737 ev737 => ?_)
                refine g_pfi hIH731 sm_0 rfl (by omega) (fun H738 eH738 hIH738 => ?_)
                have hJH738 : JM H738 := JM_sF eH738 hJH731
                have e739 : k0_2 = fZ H738 0 2 := by rw [eH738, fZ_sF_ne (by decide)]; exact e732
                have e740 : v737 = fZ H738 0 34 := by rw [eH738, fZ_sF_eq hIH731 sm_0 rfl]
                have m741 : ∀ i, aZ H738 2 i = aZ H 2 i := fun i => (by rw [eH738, aZ_sF] : aZ H738 2 i = aZ H731 2 i).trans (m734 i)
                have m742 : ∀ i, aZ H738 17 i = aZ H 17 i := fun i => (by rw [eH738, aZ_sF] : aZ H738 17 i = aZ H731 17 i).trans (m735 i)
                have ie740 : v737.toInt = (fZ H738 0 34).toInt := by rw [← e740]
                refine g_nop ?_
                refine g_iinc (l' := (fun v743 => [(0, .ref 0), (1, .int v743), (2, .int v723)])) rfl rfl (by decide) (by omega) (fun _ => rfl) (fun v743 ev743 => ?_)
                refine g_goto ?_
                refine gG_pick [0, 1] (l' := [(0, .ref 0), (1, .int v743)]) rfl ?_
                exact ihL714 v743 H738 hIH738 hJH738 e739 m741 m742 (by omega) (by omega) (pmA_st hIH724 (by omega) rfl eH731 (fun a i => by rw [eH738, aZ_sF]) q3 (by omega) (by omega)) (by omega)
              · refine g_aload_n rfl ?_
                refine g_gfr hIH724 sm_0 rfl ?_
                refine g_aload_n rfl ?_
                refine g_gfr hIH724 sm_0 rfl ?_
                refine g_iload_n rfl ?_
                refine g_iconst (by decide) (fun v744 kv744 => ?_)
                refine g_isub (by omega) (fun v745 ev745 => ?_)
                refine g_iaload hIH724 sm_19 rfl (by omega) (fun v746 ev746 lv746 uv746 => ?_)
                refine g_iaload hIH724 sm_18 rfl (by omega) (fun v747 ev747 lv747 uv747 => ?_)
                refine g_aload_n rfl ?_
                refine g_gfr hIH724 sm_0 rfl ?_
                refine g_iload_n rfl ?_
                refine g_iaload hIH724 sm_18 rfl (by omega) (fun v748 ev748 lv748 uv748 => ?_)
                refine g_if2_le (fun c749 => ?_) (fun c749 => ?_)
                · refine g_aload_n rfl ?_
                  refine g_gfr hIH724 sm_0 rfl ?_
                  refine g_iload_n rfl ?_
                  refine g_iload_n rfl ?_
                  refine g_iastore hIH724 sm_19 (by omega) (by omega) (fun H750 eH750 hIH750 => ?_)
                  have hJH750 : JM H750 := JM_sA (by decide) eH750 hJH724
                  have e751 : k0_2 = fZ H750 0 2 := by rw [eH750, fZ_sA]; exact e725
                  have e752 : k715 = fZ H750 0 34 := by rw [eH750, fZ_sA]; exact e726
                  have m753 : ∀ i, aZ H750 2 i = aZ H 2 i := fun i => (by rw [eH750, aZ_sA_nc (by omega)] : aZ H750 2 i = aZ H724 2 i).trans (m727 i)
                  have m754 : ∀ i, aZ H750 17 i = aZ H 17 i := fun i => (by rw [eH750, aZ_sA_nc (by omega)] : aZ H750 17 i = aZ H724 17 i).trans (m728 i)
                  have ie752 : k715.toInt = (fZ H750 0 34).toInt := by rw [← e752]
                  refine g_aload_n rfl ?_
                  refine g_dup rfl ?_
                  refine g_gfk hIH750 sm_0 rfl e752 ?_
                  refine g_iconst (by decide) (fun v755 kv755 => ?_)
                  refine g_iadd (by omega) (fun v756 ev756 => ?_)
                  refine g_pfi hIH750 sm_0 rfl (by omega) (fun H757 eH757 hIH757 => ?_)
                  have hJH757 : JM H757 := JM_sF eH757 hJH750
                  have e758 : k0_2 = fZ H757 0 2 := by rw [eH757, fZ_sF_ne (by decide)]; exact e751
                  have e759 : v756 = fZ H757 0 34 := by rw [eH757, fZ_sF_eq hIH750 sm_0 rfl]
                  have m760 : ∀ i, aZ H757 2 i = aZ H 2 i := fun i => (by rw [eH757, aZ_sF] : aZ H757 2 i = aZ H750 2 i).trans (m753 i)
                  have m761 : ∀ i, aZ H757 17 i = aZ H 17 i := fun i => (by rw [eH757, aZ_sF] : aZ H757 17 i = aZ H750 17 i).trans (m754 i)
                  have ie759 : v756.toInt = (fZ H757 0 34).toInt := by rw [← e759]
                  refine g_nop ?_
                  refine g_iinc (l' := (fun v762 => [(0, .ref 0), (1, .int v762), (2, .int v723)])) rfl rfl (by decide) (by omega) (fun _ => rfl) (fun v762 ev762 => ?_)
                  refine g_goto ?_
                  refine gG_pick [0, 1] (l' := [(0, .ref 0), (1, .int v762)]) rfl ?_
                  exact ihL714 v762 H757 hIH757 hJH757 e758 m760 m761 (by omega) (by omega) (pmA_st hIH724 (by omega) rfl eH750 (fun a i => by rw [eH757, aZ_sF]) q3 (by omega) (by omega)) (by omega)
                · refine g_aload_n rfl ?_
                  refine g_gfr hIH724 sm_0 rfl ?_
                  refine g_iload_n rfl ?_
                  refine g_aload_n rfl ?_
                  refine g_gfr hIH724 sm_0 rfl ?_
                  refine g_iload_n rfl ?_
                  refine g_iconst (by decide) (fun v763 kv763 => ?_)
                  refine g_isub (by omega) (fun v764 ev764 => ?_)
                  refine g_iaload hIH724 sm_19 rfl (by omega) (fun v765 ev765 lv765 uv765 => ?_)
                  refine g_iastore hIH724 sm_19 (by omega) (by omega) (fun H766 eH766 hIH766 => ?_)
                  have hJH766 : JM H766 := JM_sA (by decide) eH766 hJH724
                  have e767 : k0_2 = fZ H766 0 2 := by rw [eH766, fZ_sA]; exact e725
                  have e768 : k715 = fZ H766 0 34 := by rw [eH766, fZ_sA]; exact e726
                  have m769 : ∀ i, aZ H766 2 i = aZ H 2 i := fun i => (by rw [eH766, aZ_sA_nc (by omega)] : aZ H766 2 i = aZ H724 2 i).trans (m727 i)
                  have m770 : ∀ i, aZ H766 17 i = aZ H 17 i := fun i => (by rw [eH766, aZ_sA_nc (by omega)] : aZ H766 17 i = aZ H724 17 i).trans (m728 i)
                  have ie768 : k715.toInt = (fZ H766 0 34).toInt := by rw [← e768]
                  refine g_iinc (l' := (fun v771 => [(0, .ref 0), (1, .int v709), (2, .int v771)])) rfl rfl (by decide) (by omega) (fun _ => rfl) (fun v771 ev771 => ?_)
                  refine g_goto ?_
                  exact ihL729 v771 H766 hIH766 hJH766 e767 e768 m769 m770 (by omega) (pmB_sh hIH724 (by omega) (by omega) ev765 eH766 q3 (by omega)) (by omega) (by omega)
          exact L729 _ k715 H710 hIH710 hJH710 e711 ek715 m712 m713 (by omega) (pmB_0 (by rw [ek715]; exact q2)) (by omega) (Nat.lt_succ_self _)
        · refine g_goto ?_
          refine g_iinc (l' := (fun v772 => [(0, .ref 0), (1, .int v772)])) rfl rfl (by decide) (by omega) (fun _ => rfl) (fun v772 ev772 => ?_)
          refine g_goto ?_
          exact ihL714 v772 H710 hIH710 hJH710 e711 m712 m713 (by omega) (by omega) (pmA_skip q2 (by omega) (by omega) (by rw [← ev721]; omega)) (by omega)
  exact L714 _ v708 H703 hIH703 hJH703 e704 m706 m707 (by omega) (by omega) (pmA_0 (by omega)) (Nat.lt_succ_self _)
set_option maxRecDepth 4000 in
set_option maxHeartbeats 4000000 in
/-- M.clears -/
theorem s_184 (H : mzH) (hI : gI SM H) (hJ : JN H) : gCall 184 [.ref 0] H (gRv (fun H' => gI SM H' ∧ JM H' ∧ fZ H' 0 2 = fZ H 0 2 ∧ (∀ i, aZ H' 2 i = aZ H 2 i) ∧ (∀ i, aZ H' 17 i = aZ H 17 i) ∧ pmA H' (aZ H' 2 2).toInt 60)) := by
  obtain ⟨k0_2, ek0_2⟩ : ∃ z, z = fZ H 0 2 := ⟨_, rfl⟩
  have ik0_2 : k0_2.toInt = (fZ H 0 2).toInt := by rw [← ek0_2]
  have bk0_2 : 0 ≤ k0_2.toInt ∧ k0_2.toInt ≤ 900 := by rw [ek0_2]; exact fZ_of hI sm_0 rfl
  have mk2 : ∀ i, aZ H 2 i = aZ H 2 i := fun _ => rfl
  have mk17 : ∀ i, aZ H 17 i = aZ H 17 i := fun _ => rfl
  have mk3 : ∀ i, aZ H 3 i = aZ H 3 i := fun _ => rfl
  refine gG_call [(0, .ref 0)] ⟨rfl, trivial⟩ ?_
  show gG 2 zB_184 (mzBlk zB_184 0) [(0, .ref 0)] [] H 0 0 _
  refine g_iconst (by decide) (fun v509 kv509 => ?_)
  refine g_istore_n (l' := [(0, .ref 0), (1, .int v509)]) rfl rfl ?_
  refine g_nop ?_
  have L516 : ∀ (N : Nat) (v510 : Int32) (H511 : mzH), gI SM H511 → k0_2 = fZ H511 0 2 → (∀ i, aZ H511 2 i = aZ H 2 i) → (∀ i, aZ H511 17 i = aZ H 17 i) → (∀ i, aZ H511 3 i = aZ H 3 i) → (0 ≤ v510.toInt ∧ v510.toInt ≤ 40) → (∀ q, q < v510.toInt.toNat → (aZ H511 9 q).toInt = -5) → (40 - v510.toInt).toNat < N → gG 2 zB_184 (mzBlk zB_184 1) [(0, .ref 0), (1, .int v510)] [] H511 0 0 (gRv (fun H' => gI SM H' ∧ JM H' ∧ fZ H' 0 2 = fZ H 0 2 ∧ (∀ i, aZ H' 2 i = aZ H 2 i) ∧ (∀ i, aZ H' 17 i = aZ H 17 i) ∧ pmA H' (aZ H' 2 2).toInt 60)) := by
    intro N
    induction N with
    | zero => intro v510 H511 hIH511 e512 m513 m514 m515 bv510 q1 hmL516; exact absurd hmL516 (Nat.not_lt_zero _)
    | succ N ihL516 =>
      intro v510 H511 hIH511 e512 m513 m514 m515 bv510 q1 hmL516
      refine g_iload_n rfl ?_
      refine g_bipush (by decide) (fun v517 kv517 => ?_)
      refine g_if2_ge (fun c518 => ?_) (fun c518 => ?_)
      · have hJ519 : JM H511 := JM_clr hJ (fun q hq => q1 q (by omega)) m513 m515
        refine g_aload_n rfl ?_
        refine g_invvv hIH511 sm_0 rfl rfl rfl rfl (s_183 H511 hIH511 hJ519) (fun H520 r521 => ?_)
        obtain ⟨hIH520, hJH520, w522, m523, m524, p525⟩ := r521
        have e526 : k0_2 = fZ H520 0 2 := e512.trans w522.symm
        have m527 : ∀ i, aZ H520 2 i = aZ H 2 i := fun i => (m523 i).trans (m513 i)
        have m528 : ∀ i, aZ H520 17 i = aZ H 17 i := fun i => (m524 i).trans (m514 i)
        exact g_ret ⟨rfl, hIH520, hJH520, (e526.symm.trans ek0_2), m527, m528, p525⟩
      · refine g_aload_n rfl ?_
        refine g_gfr hIH511 sm_0 rfl ?_
        refine g_iload_n rfl ?_
        refine g_iconst (by decide) (fun v529 kv529 => ?_)
        refine g_zastore hIH511 sm_7 (by omega) (by omega) (fun H530 eH530 hIH530 => ?_)
        have e531 : k0_2 = fZ H530 0 2 := by rw [eH530, fZ_sA]; exact e512
        have m532 : ∀ i, aZ H530 2 i = aZ H 2 i := fun i => (by rw [eH530, aZ_sA_nc (by omega)] : aZ H530 2 i = aZ H511 2 i).trans (m513 i)
        have m533 : ∀ i, aZ H530 17 i = aZ H 17 i := fun i => (by rw [eH530, aZ_sA_nc (by omega)] : aZ H530 17 i = aZ H511 17 i).trans (m514 i)
        have m534 : ∀ i, aZ H530 3 i = aZ H 3 i := fun i => (by rw [eH530, aZ_sA_nc (by omega)] : aZ H530 3 i = aZ H511 3 i).trans (m515 i)
        refine g_aload_n rfl ?_
        refine g_gfr hIH530 sm_0 rfl ?_
        refine g_iload_n rfl ?_
        refine g_bipush (by decide) (fun v535 kv535 => ?_)
        refine g_iastore hIH530 sm_9 (by omega) (by omega) (fun H536 eH536 hIH536 => ?_)
        have e537 : k0_2 = fZ H536 0 2 := by rw [eH536, fZ_sA]; exact e531
        have m538 : ∀ i, aZ H536 2 i = aZ H 2 i := fun i => (by rw [eH536, aZ_sA_nc (by omega)] : aZ H536 2 i = aZ H530 2 i).trans (m532 i)
        have m539 : ∀ i, aZ H536 17 i = aZ H 17 i := fun i => (by rw [eH536, aZ_sA_nc (by omega)] : aZ H536 17 i = aZ H530 17 i).trans (m533 i)
        have m540 : ∀ i, aZ H536 3 i = aZ H 3 i := fun i => (by rw [eH536, aZ_sA_nc (by omega)] : aZ H536 3 i = aZ H530 3 i).trans (m534 i)
        refine g_aload_n rfl ?_
        refine g_gfr hIH536 sm_0 rfl ?_
        refine g_iload_n rfl ?_
        refine g_bipush (by decide) (fun v541 kv541 => ?_)
        refine g_iastore hIH536 sm_12 (by omega) (gz_any _) (fun H542 eH542 hIH542 => ?_)
        have e543 : k0_2 = fZ H542 0 2 := by rw [eH542, fZ_sA]; exact e537
        have m544 : ∀ i, aZ H542 2 i = aZ H 2 i := fun i => (by rw [eH542, aZ_sA_nc (by omega)] : aZ H542 2 i = aZ H536 2 i).trans (m538 i)
        have m545 : ∀ i, aZ H542 17 i = aZ H 17 i := fun i => (by rw [eH542, aZ_sA_nc (by omega)] : aZ H542 17 i = aZ H536 17 i).trans (m539 i)
        have m546 : ∀ i, aZ H542 3 i = aZ H 3 i := fun i => (by rw [eH542, aZ_sA_nc (by omega)] : aZ H542 3 i = aZ H536 3 i).trans (m540 i)
        refine g_aload_n rfl ?_
        refine g_gfr hIH542 sm_0 rfl ?_
        refine g_iload_n rfl ?_
        refine g_iconst (by decide) (fun v547 kv547 => ?_)
        refine g_zastore hIH542 sm_13 (by omega) (by omega) (fun H548 eH548 hIH548 => ?_)
        have e549 : k0_2 = fZ H548 0 2 := by rw [eH548, fZ_sA]; exact e543
        have m550 : ∀ i, aZ H548 2 i = aZ H 2 i := fun i => (by rw [eH548, aZ_sA_nc (by omega)] : aZ H548 2 i = aZ H542 2 i).trans (m544 i)
        have m551 : ∀ i, aZ H548 17 i = aZ H 17 i := fun i => (by rw [eH548, aZ_sA_nc (by omega)] : aZ H548 17 i = aZ H542 17 i).trans (m545 i)
        have m552 : ∀ i, aZ H548 3 i = aZ H 3 i := fun i => (by rw [eH548, aZ_sA_nc (by omega)] : aZ H548 3 i = aZ H542 3 i).trans (m546 i)
        refine g_aload_n rfl ?_
        refine g_gfr hIH548 sm_0 rfl ?_
        refine g_iload_n rfl ?_
        refine g_iconst (by decide) (fun v553 kv553 => ?_)
        refine g_zastore hIH548 sm_14 (by omega) (by omega) (fun H554 eH554 hIH554 => ?_)
        have e555 : k0_2 = fZ H554 0 2 := by rw [eH554, fZ_sA]; exact e549
        have m556 : ∀ i, aZ H554 2 i = aZ H 2 i := fun i => (by rw [eH554, aZ_sA_nc (by omega)] : aZ H554 2 i = aZ H548 2 i).trans (m550 i)
        have m557 : ∀ i, aZ H554 17 i = aZ H 17 i := fun i => (by rw [eH554, aZ_sA_nc (by omega)] : aZ H554 17 i = aZ H548 17 i).trans (m551 i)
        have m558 : ∀ i, aZ H554 3 i = aZ H 3 i := fun i => (by rw [eH554, aZ_sA_nc (by omega)] : aZ H554 3 i = aZ H548 3 i).trans (m552 i)
        refine g_aload_n rfl ?_
        refine g_gfr hIH554 sm_0 rfl ?_
        refine g_iload_n rfl ?_
        refine g_iconst (by decide) (fun v559 kv559 => ?_)
        refine g_zastore hIH554 sm_15 (by omega) (by omega) (fun H560 eH560 hIH560 => ?_)
        have e561 : k0_2 = fZ H560 0 2 := by rw [eH560, fZ_sA]; exact e555
        have m562 : ∀ i, aZ H560 2 i = aZ H 2 i := fun i => (by rw [eH560, aZ_sA_nc (by omega)] : aZ H560 2 i = aZ H554 2 i).trans (m556 i)
        have m563 : ∀ i, aZ H560 17 i = aZ H 17 i := fun i => (by rw [eH560, aZ_sA_nc (by omega)] : aZ H560 17 i = aZ H554 17 i).trans (m557 i)
        have m564 : ∀ i, aZ H560 3 i = aZ H 3 i := fun i => (by rw [eH560, aZ_sA_nc (by omega)] : aZ H560 3 i = aZ H554 3 i).trans (m558 i)
        refine g_aload_n rfl ?_
        refine g_gfr hIH560 sm_0 rfl ?_
        refine g_iload_n rfl ?_
        refine g_iconst (by decide) (fun v565 kv565 => ?_)
        refine g_zastore hIH560 sm_16 (by omega) (by omega) (fun H566 eH566 hIH566 => ?_)
        have e567 : k0_2 = fZ H566 0 2 := by rw [eH566, fZ_sA]; exact e561
        have m568 : ∀ i, aZ H566 2 i = aZ H 2 i := fun i => (by rw [eH566, aZ_sA_nc (by omega)] : aZ H566 2 i = aZ H560 2 i).trans (m562 i)
        have m569 : ∀ i, aZ H566 17 i = aZ H 17 i := fun i => (by rw [eH566, aZ_sA_nc (by omega)] : aZ H566 17 i = aZ H560 17 i).trans (m563 i)
        have m570 : ∀ i, aZ H566 3 i = aZ H 3 i := fun i => (by rw [eH566, aZ_sA_nc (by omega)] : aZ H566 3 i = aZ H560 3 i).trans (m564 i)
        refine g_iinc (l' := (fun v571 => [(0, .ref 0), (1, .int v571)])) rfl rfl (by decide) (by omega) (fun _ => rfl) (fun v571 ev571 => ?_)
        refine g_goto ?_
        exact ihL516 v571 H566 hIH566 e567 m568 m569 m570 (by omega) (fun q hq => by rw [eH566, aZ_sA_nc (by decide), eH560, aZ_sA_nc (by decide), eH554, aZ_sA_nc (by decide), eH548, aZ_sA_nc (by decide), eH542, aZ_sA_nc (by decide), eH536]; if e : v510.toInt.toNat = q then (subst e; rw [aZ_sA_eq hIH530 sm_9 (by omega)]; omega) else (rw [aZ_sA_ne e, eH530, aZ_sA_nc (by decide)]; exact q1 q (by omega))) (by omega)
  exact L516 _ v509 H hI ek0_2 mk2 mk17 mk3 (by omega) (fun q hq => absurd hq (by omega)) (Nat.lt_succ_self _)
set_option maxRecDepth 4000 in
set_option maxHeartbeats 4000000 in
/-- M.topOf -/
theorem s_185 (a1 : Int32) (ha1 : 0 ≤ a1.toInt ∧ a1.toInt ≤ 39) (H : mzH) (hI : gI SM H) (hJ : JM H) : gCall 185 [.ref 0, .int a1] H (gRi (fun v H' => H = H' ∧ (0 ≤ v.toInt ∧ v.toInt ≤ 39))) := by
  refine gG_call [(0, .ref 0), (1, .int a1)] ⟨rfl, rfl, trivial⟩ ?_
  show gG 3 zB_185 (mzBlk zB_185 0) [(0, .ref 0), (1, .int a1)] [] H 0 0 _
  refine g_iload_n rfl ?_
  refine g_istore_n (l' := [(0, .ref 0), (1, .int a1), (2, .int a1)]) rfl rfl ?_
  refine g_nop ?_
  have L22 : ∀ (N : Nat) (v21 : Int32), (0 ≤ v21.toInt ∧ v21.toInt ≤ 39) → mK H v21 < N → gG 3 zB_185 (mzBlk zB_185 1) [(0, .ref 0), (1, .int a1), (2, .int v21)] [] H 0 0 (gRi (fun v H' => H = H' ∧ (0 ≤ v.toInt ∧ v.toInt ≤ 39))) := by
    intro N
    induction N with
    | zero => intro v21 bv21 hmL22; exact absurd hmL22 (Nat.not_lt_zero _)
    | succ N ihL22 =>
      intro v21 bv21 hmL22
      refine g_aload_n rfl ?_
      refine g_gfr hI sm_0 rfl ?_
      refine g_iload_n rfl ?_
      refine g_iaload hI sm_9 rfl (by omega) (fun v23 ev23 lv23 uv23 => ?_)
      have qv23 := JM_in hJ (by omega) ev23
      refine g_bipush (by decide) (fun v24 kv24 => ?_)
      refine g_if2_eq (fun c25 => ?_) (fun c25 => ?_)
      · refine g_iload_n rfl ?_
        exact g_iret ⟨_, rfl, rfl, (by omega)⟩
      · refine g_aload_n rfl ?_
        refine g_gfr hI sm_0 rfl ?_
        refine g_iload_n rfl ?_
        refine g_ialoadk hI sm_9 rfl (by omega) ev23 ?_
        refine g_istore_n (l' := [(0, .ref 0), (1, .int a1), (2, .int v23)]) rfl rfl ?_
        refine g_goto ?_
        exact ihL22 v23 (by omega) (mK_up hI hJ (by omega) ev23 hmL22)
  exact L22 _ a1 (by omega) (Nat.lt_succ_self _)
set_option maxRecDepth 4000 in
set_option maxHeartbeats 4000000 in
/-- M.isWithin -/
theorem s_186 (a1 : Int32) (ha1 : 0 ≤ a1.toInt ∧ a1.toInt ≤ 39) (a2 : Int32) (H : mzH) (hI : gI SM H) (hJ : JM H) : gCall 186 [.ref 0, .int a1, .int a2] H (gRi (fun v H' => H = H' ∧ (0 ≤ v.toInt ∧ v.toInt ≤ 1))) := by
  refine gG_call [(0, .ref 0), (1, .int a1), (2, .int a2)] ⟨rfl, rfl, rfl, trivial⟩ ?_
  show gG 4 zB_186 (mzBlk zB_186 0) [(0, .ref 0), (1, .int a1), (2, .int a2)] [] H 0 0 _
  refine g_aload_n rfl ?_
  refine g_gfr hI sm_0 rfl ?_
  refine g_iload_n rfl ?_
  refine g_iaload hI sm_9 rfl (by omega) (fun v57 ev57 lv57 uv57 => ?_)
  have qv57 := JM_in hJ (by omega) ev57
  refine g_istore_n (l' := [(0, .ref 0), (1, .int a1), (2, .int a2), (3, .int v57)]) rfl rfl ?_
  refine g_nop ?_
  have L59 : ∀ (N : Nat) (v58 : Int32), (-5 ≤ v58.toInt ∧ v58.toInt ≤ 39) → (v58.toInt = -5 ∨ 0 ≤ v58.toInt) → mK H v58 < N → gG 4 zB_186 (mzBlk zB_186 1) [(0, .ref 0), (1, .int a1), (2, .int a2), (3, .int v58)] [] H 0 0 (gRi (fun v H' => H = H' ∧ (0 ≤ v.toInt ∧ v.toInt ≤ 1))) := by
    intro N
    induction N with
    | zero => intro v58 bv58 q1 hmL59; exact absurd hmL59 (Nat.not_lt_zero _)
    | succ N ihL59 =>
      intro v58 bv58 q1 hmL59
      refine g_iload_n rfl ?_
      refine g_bipush (by decide) (fun v60 kv60 => ?_)
      refine g_if2_eq (fun c61 => ?_) (fun c61 => ?_)
      · refine g_iload_n rfl ?_
        refine g_iload_n rfl ?_
        refine g_if2_ne (fun c62 => ?_) (fun c62 => ?_)
        · refine g_iconst (by decide) (fun v63 kv63 => ?_)
          refine g_nop ?_
          exact g_zret (by omega) ⟨_, rfl, rfl, (by omega)⟩
        · refine g_iconst (by decide) (fun v64 kv64 => ?_)
          refine g_goto ?_
          exact g_zret (by omega) ⟨_, rfl, rfl, (by omega)⟩
      · refine g_iload_n rfl ?_
        refine g_iload_n rfl ?_
        refine g_if2_eq (fun c65 => ?_) (fun c65 => ?_)
        · refine g_iload_n rfl ?_
          refine g_iload_n rfl ?_
          refine g_if2_ne (fun c66 => ?_) (fun c66 => ?_)
          · refine g_iconst (by decide) (fun v67 kv67 => ?_)
            refine g_nop ?_
            exact g_zret (by omega) ⟨_, rfl, rfl, (by omega)⟩
          · refine g_iconst (by decide) (fun v68 kv68 => ?_)
            refine g_goto ?_
            exact g_zret (by omega) ⟨_, rfl, rfl, (by omega)⟩
        · refine g_aload_n rfl ?_
          refine g_gfr hI sm_0 rfl ?_
          refine g_iload_n rfl ?_
          refine g_iaload hI sm_9 rfl (by omega) (fun v69 ev69 lv69 uv69 => ?_)
          have qv69 := JM_in hJ (by omega) ev69
          refine g_istore_n (l' := [(0, .ref 0), (1, .int a1), (2, .int a2), (3, .int v69)]) rfl rfl ?_
          refine g_goto ?_
          exact ihL59 v69 (by omega) (by omega) (mK_up hI hJ (by omega) ev69 hmL59)
  exact L59 _ v57 (by omega) (by omega) (Nat.lt_succ_self _)
set_option maxRecDepth 4000 in
set_option maxHeartbeats 4000000 in
/-- M.isHeld -/
theorem s_187 (a1 : Int32) (H : mzH) (hI : gI SM H) (hJ : JM H) : gCall 187 [.ref 0, .int a1] H (gRi (fun v H' => H = H' ∧ (0 ≤ v.toInt ∧ v.toInt ≤ 1))) := by
  refine gG_call [(0, .ref 0), (1, .int a1)] ⟨rfl, rfl, trivial⟩ ?_
  show gG 3 zB_187 (mzBlk zB_187 0) [(0, .ref 0), (1, .int a1)] [] H 0 0 _
  refine g_iconst (by decide) (fun v189 kv189 => ?_)
  refine g_istore_n (l' := [(0, .ref 0), (1, .int a1), (2, .int v189)]) rfl rfl ?_
  refine g_nop ?_
  have L191 : ∀ (N : Nat) (v190 : Int32), (0 ≤ v190.toInt ∧ v190.toInt ≤ 40) → (40 - v190.toInt).toNat < N → gG 3 zB_187 (mzBlk zB_187 1) [(0, .ref 0), (1, .int a1), (2, .int v190)] [] H 0 0 (gRi (fun v H' => H = H' ∧ (0 ≤ v.toInt ∧ v.toInt ≤ 1))) := by
    intro N
    induction N with
    | zero => intro v190 bv190 hmL191; exact absurd hmL191 (Nat.not_lt_zero _)
    | succ N ihL191 =>
      intro v190 bv190 hmL191
      refine g_iload_n rfl ?_
      refine g_bipush (by decide) (fun v192 kv192 => ?_)
      refine g_if2_ge (fun c193 => ?_) (fun c193 => ?_)
      · refine g_iconst (by decide) (fun v194 kv194 => ?_)
        exact g_zret (by omega) ⟨_, rfl, rfl, (by omega)⟩
      · refine g_aload_n rfl ?_
        refine g_gfr hI sm_0 rfl ?_
        refine g_iload_n rfl ?_
        refine g_baload hI sm_14 rfl (by omega) (fun v195 ev195 lv195 uv195 => ?_)
        refine g_if_eq (fun c196 => ?_) (fun c196 => ?_)
        · refine g_iinc (l' := (fun v197 => [(0, .ref 0), (1, .int a1), (2, .int v197)])) rfl rfl (by decide) (by omega) (fun _ => rfl) (fun v197 ev197 => ?_)
          refine g_goto ?_
          exact ihL191 v197 (by omega) (by omega)
        · refine g_iload_n rfl ?_
          refine g_iload_n rfl ?_
          refine g_if2_eq (fun c198 => ?_) (fun c198 => ?_)
          · refine g_iconst (by decide) (fun v199 kv199 => ?_)
            exact g_zret (by omega) ⟨_, rfl, rfl, (by omega)⟩
          · refine g_aload_n rfl ?_
            refine g_iload_n rfl ?_
            refine g_iload_n rfl ?_
            refine g_invvi hI sm_0 rfl rfl rfl rfl (s_186 v190 (by omega) a1 H hI hJ) (fun v202 H200 r201 => ?_)
            obtain ⟨rfl, bv202⟩ := r201
            refine g_if_eq (fun c203 => ?_) (fun c203 => ?_)
            · refine g_iinc (l' := (fun v204 => [(0, .ref 0), (1, .int a1), (2, .int v204)])) rfl rfl (by decide) (by omega) (fun _ => rfl) (fun v204 ev204 => ?_)
              refine g_goto ?_
              exact ihL191 v204 (by omega) (by omega)
            · refine g_nop ?_
              refine g_iconst (by decide) (fun v205 kv205 => ?_)
              exact g_zret (by omega) ⟨_, rfl, rfl, (by omega)⟩
  exact L191 _ v189 (by omega) (Nat.lt_succ_self _)
set_option maxRecDepth 4000 in
set_option maxHeartbeats 4000000 in
/-- M.manyIn -/
theorem s_188 (a1 : Int32) (H : mzH) (hI : gI SM H) (hJ : JN H) : gCall 188 [.ref 0, .int a1] H (gRi (fun v H' => H = H')) := by
  refine gG_call [(0, .ref 0), (1, .int a1)] ⟨rfl, rfl, trivial⟩ ?_
  show gG 4 zB_188 (mzBlk zB_188 0) [(0, .ref 0), (1, .int a1)] [] H 0 0 _
  refine g_iconst (by decide) (fun v399 kv399 => ?_)
  refine g_istore_n (l' := [(0, .ref 0), (1, .int a1), (2, .int v399)]) rfl rfl ?_
  refine g_iconst (by decide) (fun v400 kv400 => ?_)
  refine g_istore_n (l' := [(0, .ref 0), (1, .int a1), (2, .int v399), (3, .int v400)]) rfl rfl ?_
  refine g_nop ?_
  have L403 : ∀ (N : Nat) (v401 : Int32) (v402 : Int32), (0 ≤ v402.toInt ∧ v402.toInt ≤ 40) → (40 - v402.toInt).toNat < N → gG 4 zB_188 (mzBlk zB_188 1) [(0, .ref 0), (1, .int a1), (2, .int v401), (3, .int v402)] [] H 0 0 (gRi (fun v H' => H = H')) := by
    intro N
    induction N with
    | zero => intro v401 v402 bv402 hmL403; exact absurd hmL403 (Nat.not_lt_zero _)
    | succ N ihL403 =>
      intro v401 v402 bv402 hmL403
      refine g_iload_n rfl ?_
      refine g_bipush (by decide) (fun v404 kv404 => ?_)
      refine g_if2_ge (fun c405 => ?_) (fun c405 => ?_)
      · refine g_iload_n rfl ?_
        exact g_iret ⟨_, rfl, rfl⟩
      · refine g_iload_n rfl ?_
        refine g_aload_n rfl ?_
        refine g_gfr hI sm_0 rfl ?_
        refine g_iload_n rfl ?_
        refine g_iaload hI sm_9 rfl (by omega) (fun v406 ev406 lv406 uv406 => ?_)
        refine g_iload_n rfl ?_
        refine g_if2_ne (fun c407 => ?_) (fun c407 => ?_)
        · refine g_iconst (by decide) (fun v408 kv408 => ?_)
          refine g_nop ?_
          refine g_iadd (by have := gz_any v401; omega) (fun v409 ev409 => ?_)
          refine g_istore_n (l' := [(0, .ref 0), (1, .int a1), (2, .int v409), (3, .int v402)]) rfl rfl ?_
          refine g_iinc (l' := (fun v410 => [(0, .ref 0), (1, .int a1), (2, .int v409), (3, .int v410)])) rfl rfl (by decide) (by omega) (fun _ => rfl) (fun v410 ev410 => ?_)
          refine g_goto ?_
          exact ihL403 v409 v410 (by omega) (by omega)
        · refine g_iconst (by decide) (fun v411 kv411 => ?_)
          refine g_goto ?_
          refine g_iadd' (fun v412 _ => ?_)
          refine g_istore_n (l' := [(0, .ref 0), (1, .int a1), (2, .int v412), (3, .int v402)]) rfl rfl ?_
          refine g_iinc (l' := (fun v413 => [(0, .ref 0), (1, .int a1), (2, .int v412), (3, .int v413)])) rfl rfl (by decide) (by omega) (fun _ => rfl) (fun v413 ev413 => ?_)
          refine g_goto ?_
          exact ihL403 v412 v413 (by omega) (by omega)
  exact L403 _ v399 v400 (by omega) (Nat.lt_succ_self _)
set_option maxRecDepth 4000 in
set_option maxHeartbeats 4000000 in
/-- M.isSoon -/
theorem s_189 (a1 : Int32) (ha1 : 0 ≤ a1.toInt ∧ a1.toInt ≤ 39) (a2 : Int32) (ha2 : 0 ≤ a2.toInt ∧ a2.toInt ≤ 7) (a3 : Int32) (H : mzH) (hI : gI SM H) (hJ : JM H) : gCall 189 [.ref 0, .int a1, .int a2, .int a3] H (gRi (fun v H' => H = H' ∧ (0 ≤ v.toInt ∧ v.toInt ≤ 1))) := by
  refine gG_call [(0, .ref 0), (1, .int a1), (2, .int a2), (3, .int a3)] ⟨rfl, rfl, rfl, rfl, trivial⟩ ?_
  show gG 5 zB_189 (mzBlk zB_189 0) [(0, .ref 0), (1, .int a1), (2, .int a2), (3, .int a3)] [] H 0 0 _
  refine g_aload_n rfl ?_
  refine g_iload_n rfl ?_
  refine g_invvi hI sm_0 rfl rfl rfl rfl (s_185 a1 (by omega) H hI hJ) (fun v63 H61 r62 => ?_)
  obtain ⟨rfl, bv63⟩ := r62
  refine g_istore (l' := [(0, .ref 0), (1, .int a1), (2, .int a2), (3, .int a3), (4, .int v63)]) rfl rfl ?_
  refine g_aload_n rfl ?_
  refine g_gfr hI sm_0 rfl ?_
  refine g_iload rfl ?_
  refine g_iaload hI sm_10 rfl (by omega) (fun v64 ev64 lv64 uv64 => ?_)
  refine g_iload_n rfl ?_
  refine g_if2_eq (fun c65 => ?_) (fun c65 => ?_)
  · refine g_iconst (by decide) (fun v66 kv66 => ?_)
    refine g_nop ?_
    exact g_zret (by omega) ⟨_, rfl, rfl, (by omega)⟩
  · refine g_iload_n rfl ?_
    refine g_aload_n rfl ?_
    refine g_gfr hI sm_0 rfl ?_
    refine g_iload rfl ?_
    refine g_iaload hI sm_11 rfl (by omega) (fun v67 ev67 lv67 uv67 => ?_)
    refine g_isub' (fun v68 _ => ?_)
    refine g_aload_n rfl ?_
    refine g_gfr hI sm_0 rfl ?_
    refine g_bipush (by decide) (fun v69 kv69 => ?_)
    refine g_aload_n rfl ?_
    refine g_gfr hI sm_0 rfl ?_
    refine g_iload rfl ?_
    refine g_ialoadk hI sm_10 rfl (by omega) ev64 ?_
    refine g_imulk' (n := 8) kv69 (by omega) (fun v70 ev70 => ?_)
    refine g_iload_n rfl ?_
    refine g_iadd (by omega) (fun v71 ev71 => ?_)
    refine g_iaload hI sm_6 rfl (by omega) (fun v72 ev72 lv72 uv72 => ?_)
    refine g_if2_ge (fun c73 => ?_) (fun c73 => ?_)
    · refine g_iconst (by decide) (fun v74 kv74 => ?_)
      refine g_nop ?_
      exact g_zret (by omega) ⟨_, rfl, rfl, (by omega)⟩
    · refine g_iconst (by decide) (fun v75 kv75 => ?_)
      refine g_goto ?_
      exact g_zret (by omega) ⟨_, rfl, rfl, (by omega)⟩
set_option maxRecDepth 4000 in
set_option maxHeartbeats 4000000 in
/-- M.isOneOf -/
theorem s_190 (a1 : Int32) (a2 : Int32) (a3 : Int32) (a4 : Int32) (H : mzH) (hI : gI SM H) (hJ : JN H) : gCall 190 [.ref 0, .int a1, .int a2, .int a3, .int a4] H (gRi (fun v H' => H = H' ∧ (0 ≤ v.toInt ∧ v.toInt ≤ 1))) := by
  refine gG_call [(0, .ref 0), (1, .int a1), (2, .int a2), (3, .int a3), (4, .int a4)] ⟨rfl, rfl, rfl, rfl, rfl, trivial⟩ ?_
  show gG 5 zB_190 (mzBlk zB_190 0) [(0, .ref 0), (1, .int a1), (2, .int a2), (3, .int a3), (4, .int a4)] [] H 0 0 _
  refine g_iload_n rfl ?_
  refine g_iload_n rfl ?_
  refine g_if2_eq (fun c29 => ?_) (fun c29 => ?_)
  · refine g_iconst (by decide) (fun v30 kv30 => ?_)
    refine g_goto ?_
    exact g_zret (by omega) ⟨_, rfl, rfl, (by omega)⟩
  · refine g_iload_n rfl ?_
    refine g_iload_n rfl ?_
    refine g_if2_eq (fun c31 => ?_) (fun c31 => ?_)
    · refine g_iconst (by decide) (fun v32 kv32 => ?_)
      refine g_goto ?_
      exact g_zret (by omega) ⟨_, rfl, rfl, (by omega)⟩
    · refine g_iload_n rfl ?_
      refine g_iload rfl ?_
      refine g_if2_ne (fun c33 => ?_) (fun c33 => ?_)
      · refine g_iconst (by decide) (fun v34 kv34 => ?_)
        refine g_nop ?_
        exact g_zret (by omega) ⟨_, rfl, rfl, (by omega)⟩
      · refine g_nop ?_
        refine g_iconst (by decide) (fun v35 kv35 => ?_)
        refine g_goto ?_
        exact g_zret (by omega) ⟨_, rfl, rfl, (by omega)⟩
set_option maxRecDepth 4000 in
set_option maxHeartbeats 4000000 in
/-- M.reason -/
theorem s_191 (a1 : Int32) (ha1 : 0 ≤ a1.toInt ∧ a1.toInt ≤ 59) (H : mzH) (hI : gI SM H) (hJ : JM H) : gCall 191 [.ref 0, .int a1] H (gRi (fun v H' => H = H' ∧ (∀ w n o : Int32, w = aZ H 2 (69 + 5 * a1.toInt + 1).toNat → n = aZ H 2 (69 + 5 * a1.toInt + 2).toNat → o = aZ H 2 (69 + 5 * a1.toInt + 3).toNat → v.toInt = 0 → RS H w n o))) := by
  refine gG_call [(0, .ref 0), (1, .int a1)] ⟨rfl, rfl, trivial⟩ ?_
  show gG 7 zB_191 (mzBlk zB_191 0) [(0, .ref 0), (1, .int a1)] [] H 0 0 _
  refine g_aload_n rfl ?_
  refine g_iload_n rfl ?_
  refine g_iconst (by decide) (fun v1861 kv1861 => ?_)
  refine g_invvi hI sm_0 rfl rfl rfl rfl (s_181 a1 (by omega) v1861 (by omega) H hI (JM_n hJ)) (fun v1864 H1862 r1863 => ?_)
  obtain ⟨rfl, p1865⟩ := r1863
  have tv1864 : v1864 = aZ H 2 (69 + 5 * a1.toInt + 1).toNat := by rw [p1865, kv1861]
  have qv1864 := JN_w1 (JM_n hJ) (by omega) tv1864
  refine g_istore_n (l' := [(0, .ref 0), (1, .int a1), (2, .int v1864)]) rfl rfl ?_
  refine g_aload_n rfl ?_
  refine g_iload_n rfl ?_
  refine g_iconst (by decide) (fun v1866 kv1866 => ?_)
  refine g_invvi hI sm_0 rfl rfl rfl rfl (s_181 a1 (by omega) v1866 (by omega) H hI (JM_n hJ)) (fun v1869 H1867 r1868 => ?_)
  obtain ⟨rfl, p1870⟩ := r1868
  have tv1869 : v1869 = aZ H 2 (69 + 5 * a1.toInt + 2).toNat := by rw [p1870, kv1866]
  have qv1869 := JN_w2 (JM_n hJ) (by omega) tv1869
  refine g_istore_n (l' := [(0, .ref 0), (1, .int a1), (2, .int v1864), (3, .int v1869)]) rfl rfl ?_
  refine g_aload_n rfl ?_
  refine g_iload_n rfl ?_
  refine g_iconst (by decide) (fun v1871 kv1871 => ?_)
  refine g_invvi hI sm_0 rfl rfl rfl rfl (s_181 a1 (by omega) v1871 (by omega) H hI (JM_n hJ)) (fun v1874 H1872 r1873 => ?_)
  obtain ⟨rfl, p1875⟩ := r1873
  have tv1874 : v1874 = aZ H 2 (69 + 5 * a1.toInt + 3).toNat := by rw [p1875, kv1871]
  have qv1874 := JN_w3 (JM_n hJ) (by omega) tv1864 tv1874
  refine g_istore (l' := [(0, .ref 0), (1, .int a1), (2, .int v1864), (3, .int v1869), (4, .int v1874)]) rfl rfl ?_
  refine g_iload_n rfl ?_
  refine g_iconst (by decide) (fun v1876 kv1876 => ?_)
  refine g_if2_ne (fun c1877 => ?_) (fun c1877 => ?_)
  · refine g_iconst (by decide) (fun v1878 kv1878 => ?_)
    refine g_nop ?_
    refine g_istore (l' := [(0, .ref 0), (1, .int a1), (2, .int v1864), (3, .int v1869), (4, .int v1874), (5, .int v1878)]) rfl rfl ?_
    refine g_iload_n rfl ?_
    refine g_if_ne (fun c1879 => ?_) (fun c1879 => ?_)
    · refine g_aload_n rfl ?_
      refine g_gfr hI sm_0 rfl ?_
      refine g_iload_n rfl ?_
      refine g_baload hI sm_7 rfl (by omega) (fun v1880 ev1880 lv1880 uv1880 => ?_)
      have yv1880 : v1880.toInt = (aZ H 7 v1869.toInt.toNat).toInt := by rw [ev1880]
      refine g_if_eq (fun c1881 => ?_) (fun c1881 => ?_)
      · refine g_iconst (by decide) (fun v1882 kv1882 => ?_)
        exact g_iret ⟨_, rfl, rfl, (fun w n o ew en eo hv => by rw [show w = v1864 from ew.trans tv1864.symm, show n = v1869 from en.trans tv1869.symm, show o = v1874 from eo.trans tv1874.symm]; first | (exfalso; omega) | exact ⟨fun _ => by omega, fun _ => by omega, fun _ => by omega⟩)⟩
      · refine g_iload rfl ?_
        refine g_if_eq (fun c1883 => ?_) (fun c1883 => ?_)
        · refine g_aload_n rfl ?_
          refine g_gfr hI sm_0 rfl ?_
          refine g_iload_n rfl ?_
          refine g_baload hI sm_16 rfl (by omega) (fun v1884 ev1884 lv1884 uv1884 => ?_)
          refine g_if_ne (fun c1885 => ?_) (fun c1885 => ?_)
          · refine g_iconst (by decide) (fun v1886 kv1886 => ?_)
            exact g_iret ⟨_, rfl, rfl, (fun w n o ew en eo hv => by rw [show w = v1864 from ew.trans tv1864.symm, show n = v1869 from en.trans tv1869.symm, show o = v1874 from eo.trans tv1874.symm]; first | (exfalso; omega) | exact ⟨fun _ => by omega, fun _ => by omega, fun _ => by omega⟩)⟩
          · refine g_iload rfl ?_
            refine g_if_eq (fun c1887 => ?_) (fun c1887 => ?_)
            · refine g_iload rfl ?_
              refine g_if_eq (fun c1888 => ?_) (fun c1888 => ?_)
              · refine g_iload rfl ?_
                refine g_if_eq (fun c1889 => ?_) (fun c1889 => ?_)
                · refine g_iload_n rfl ?_
                  refine g_iconst (by decide) (fun v1890 kv1890 => ?_)
                  refine g_if2_ne (fun c1891 => ?_) (fun c1891 => ?_)
                  · refine g_iload_n rfl ?_
                    refine g_iconst (by decide) (fun v1892 kv1892 => ?_)
                    refine g_if2_lt (fun c1893 => ?_) (fun c1893 => ?_)
                    · exfalso; omega
                    · refine g_iload_n rfl ?_
                      refine g_bipush (by decide) (fun v1894 kv1894 => ?_)
                      refine g_if2_gt (fun c1895 => ?_) (fun c1895 => ?_)
                      · refine g_iconst (by decide) (fun v1896 kv1896 => ?_)
                        refine g_nop ?_
                        refine g_istore (l' := [(0, .ref 0), (1, .int a1), (2, .int v1864), (3, .int v1869), (4, .int v1874), (5, .int v1878), (6, .int v1896)]) rfl rfl ?_
                        refine g_iload rfl ?_
                        refine g_if_eq (fun c1897 => ?_) (fun c1897 => ?_)
                        · refine g_iload rfl ?_
                          refine g_if_eq (fun c1898 => ?_) (fun c1898 => ?_)
                          · refine g_iload_n rfl ?_
                            refine g_bipush (by decide) (fun v1899 kv1899 => ?_)
                            refine g_if2_ne (fun c1900 => ?_) (fun c1900 => ?_)
                            · refine g_iload rfl ?_
                              refine g_if_eq (fun c1901 => ?_) (fun c1901 => ?_)
                              · refine g_iload_n rfl ?_
                                refine g_iconst (by decide) (fun v1902 kv1902 => ?_)
                                refine g_if2_ne (fun c1903 => ?_) (fun c1903 => ?_)
                                · refine g_iload_n rfl ?_
                                  refine g_iconst (by decide) (fun v1904 kv1904 => ?_)
                                  refine g_if2_ne (fun c1905 => ?_) (fun c1905 => ?_)
                                  · refine g_aload_n rfl ?_
                                    refine g_iload_n rfl ?_
                                    refine g_iconst (by decide) (fun v1906 kv1906 => ?_)
                                    refine g_bipush (by decide) (fun v1907 kv1907 => ?_)
                                    refine g_bipush (by decide) (fun v1908 kv1908 => ?_)
                                    refine g_invvi hI sm_0 rfl rfl rfl rfl (s_190 v1864 v1906 v1907 v1908 H hI (JM_n hJ)) (fun v1911 H1909 r1910 => ?_)
                                    obtain ⟨rfl, bv1911⟩ := r1910
                                    refine g_if_eq (fun c1912 => ?_) (fun c1912 => ?_)
                                    · refine g_iload_n rfl ?_
                                      refine g_iconst (by decide) (fun v1913 kv1913 => ?_)
                                      refine g_if2_eq (fun c1914 => ?_) (fun c1914 => ?_)
                                      · exfalso; omega
                                      · refine g_iload_n rfl ?_
                                        refine g_bipush (by decide) (fun v1915 kv1915 => ?_)
                                        refine g_if2_ne (fun c1916 => ?_) (fun c1916 => ?_)
                                        · refine g_iload rfl ?_
                                          refine g_if_ne (fun c1917 => ?_) (fun c1917 => ?_)
                                          · exfalso; omega
                                          · refine g_iload_n rfl ?_
                                            refine g_bipush (by decide) (fun v1918 kv1918 => ?_)
                                            refine g_if2_ne (fun c1919 => ?_) (fun c1919 => ?_)
                                            · refine g_iload_n rfl ?_
                                              refine g_bipush (by decide) (fun v1920 kv1920 => ?_)
                                              refine g_if2_ne (fun c1921 => ?_) (fun c1921 => ?_)
                                              · refine g_iconst (by decide) (fun v1922 kv1922 => ?_)
                                                refine g_nop ?_
                                                exact g_iret ⟨_, rfl, rfl, (fun w n o ew en eo hv => by rw [show w = v1864 from ew.trans tv1864.symm, show n = v1869 from en.trans tv1869.symm, show o = v1874 from eo.trans tv1874.symm]; first | (exfalso; omega) | exact ⟨fun _ => by omega, fun _ => by omega, fun _ => by omega⟩)⟩
                                              · refine g_aload_n rfl ?_
                                                refine g_gfr hI sm_0 rfl ?_
                                                refine g_iload_n rfl ?_
                                                refine g_baload hI sm_14 rfl (by omega) (fun v1923 ev1923 lv1923 uv1923 => ?_)
                                                refine g_if_ne (fun c1924 => ?_) (fun c1924 => ?_)
                                                · refine g_iconst (by decide) (fun v1925 kv1925 => ?_)
                                                  refine g_nop ?_
                                                  exact g_iret ⟨_, rfl, rfl, (fun w n o ew en eo hv => by rw [show w = v1864 from ew.trans tv1864.symm, show n = v1869 from en.trans tv1869.symm, show o = v1874 from eo.trans tv1874.symm]; first | (exfalso; omega) | exact ⟨fun _ => by omega, fun _ => by omega, fun _ => by omega⟩)⟩
                                                · refine g_bipush (by decide) (fun v1926 kv1926 => ?_)
                                                  refine g_goto ?_
                                                  exact g_iret ⟨_, rfl, rfl, (fun w n o ew en eo hv => by rw [show w = v1864 from ew.trans tv1864.symm, show n = v1869 from en.trans tv1869.symm, show o = v1874 from eo.trans tv1874.symm]; first | (exfalso; omega) | exact ⟨fun _ => by omega, fun _ => by omega, fun _ => by omega⟩)⟩
                                            · exfalso; omega
                                        · exfalso; omega
                                    · refine g_aload_n rfl ?_
                                      refine g_gfr hI sm_0 rfl ?_
                                      refine g_iload_n rfl ?_
                                      refine g_iaload hI sm_9 rfl (by omega) (fun v1927 ev1927 lv1927 uv1927 => ?_)
                                      have qv1927 := JM_in hJ (by omega) ev1927
                                      have yv1927 : v1927.toInt = (aZ H 9 v1869.toInt.toNat).toInt := by rw [ev1927]
                                      refine g_bipush (by decide) (fun v1928 kv1928 => ?_)
                                      refine g_if2_eq (fun c1929 => ?_) (fun c1929 => ?_)
                                      · refine g_iload_n rfl ?_
                                        refine g_iconst (by decide) (fun v1930 kv1930 => ?_)
                                        refine g_if2_eq (fun c1931 => ?_) (fun c1931 => ?_)
                                        · exfalso; omega
                                        · refine g_iload_n rfl ?_
                                          refine g_bipush (by decide) (fun v1932 kv1932 => ?_)
                                          refine g_if2_ne (fun c1933 => ?_) (fun c1933 => ?_)
                                          · refine g_iload rfl ?_
                                            refine g_if_ne (fun c1934 => ?_) (fun c1934 => ?_)
                                            · exfalso; omega
                                            · refine g_iload_n rfl ?_
                                              refine g_bipush (by decide) (fun v1935 kv1935 => ?_)
                                              refine g_if2_ne (fun c1936 => ?_) (fun c1936 => ?_)
                                              · refine g_iload_n rfl ?_
                                                refine g_bipush (by decide) (fun v1937 kv1937 => ?_)
                                                refine g_if2_ne (fun c1938 => ?_) (fun c1938 => ?_)
                                                · refine g_iconst (by decide) (fun v1939 kv1939 => ?_)
                                                  refine g_nop ?_
                                                  exact g_iret ⟨_, rfl, rfl, (fun w n o ew en eo hv => by rw [show w = v1864 from ew.trans tv1864.symm, show n = v1869 from en.trans tv1869.symm, show o = v1874 from eo.trans tv1874.symm]; first | (exfalso; omega) | exact ⟨fun _ => by omega, fun _ => by omega, fun _ => by omega⟩)⟩
                                                · refine g_aload_n rfl ?_
                                                  refine g_gfr hI sm_0 rfl ?_
                                                  refine g_iload_n rfl ?_
                                                  refine g_baload hI sm_14 rfl (by omega) (fun v1940 ev1940 lv1940 uv1940 => ?_)
                                                  refine g_if_ne (fun c1941 => ?_) (fun c1941 => ?_)
                                                  · refine g_iconst (by decide) (fun v1942 kv1942 => ?_)
                                                    refine g_nop ?_
                                                    exact g_iret ⟨_, rfl, rfl, (fun w n o ew en eo hv => by rw [show w = v1864 from ew.trans tv1864.symm, show n = v1869 from en.trans tv1869.symm, show o = v1874 from eo.trans tv1874.symm]; first | (exfalso; omega) | exact ⟨fun _ => by omega, fun _ => by omega, fun _ => by omega⟩)⟩
                                                  · refine g_bipush (by decide) (fun v1943 kv1943 => ?_)
                                                    refine g_goto ?_
                                                    exact g_iret ⟨_, rfl, rfl, (fun w n o ew en eo hv => by rw [show w = v1864 from ew.trans tv1864.symm, show n = v1869 from en.trans tv1869.symm, show o = v1874 from eo.trans tv1874.symm]; first | (exfalso; omega) | exact ⟨fun _ => by omega, fun _ => by omega, fun _ => by omega⟩)⟩
                                              · exfalso; omega
                                          · exfalso; omega
                                      · refine g_bipush (by decide) (fun v1944 kv1944 => ?_)
                                        exact g_iret ⟨_, rfl, rfl, (fun w n o ew en eo hv => by rw [show w = v1864 from ew.trans tv1864.symm, show n = v1869 from en.trans tv1869.symm, show o = v1874 from eo.trans tv1874.symm]; first | (exfalso; omega) | exact ⟨fun _ => by omega, fun _ => by omega, fun _ => by omega⟩)⟩
                                  · exfalso; omega
                                · exfalso; omega
                              · exfalso; omega
                            · refine g_aload_n rfl ?_
                              refine g_gfr hI sm_0 rfl ?_
                              refine g_iload_n rfl ?_
                              refine g_iaload hI sm_9 rfl (by omega) (fun v1945 ev1945 lv1945 uv1945 => ?_)
                              have qv1945 := JM_in hJ (by omega) ev1945
                              have yv1945 : v1945.toInt = (aZ H 9 v1869.toInt.toNat).toInt := by rw [ev1945]
                              refine g_bipush (by decide) (fun v1946 kv1946 => ?_)
                              refine g_if2_ne (fun c1947 => ?_) (fun c1947 => ?_)
                              · refine g_bipush (by decide) (fun v1948 kv1948 => ?_)
                                exact g_iret ⟨_, rfl, rfl, (fun w n o ew en eo hv => by rw [show w = v1864 from ew.trans tv1864.symm, show n = v1869 from en.trans tv1869.symm, show o = v1874 from eo.trans tv1874.symm]; first | (exfalso; omega) | exact ⟨fun _ => by omega, fun _ => by omega, fun _ => by omega⟩)⟩
                              · refine g_aload_n rfl ?_
                                refine g_gfr hI sm_0 rfl ?_
                                refine g_iload_n rfl ?_
                                refine g_baload hI sm_15 rfl (by omega) (fun v1949 ev1949 lv1949 uv1949 => ?_)
                                refine g_if_ne (fun c1950 => ?_) (fun c1950 => ?_)
                                · refine g_iload rfl ?_
                                  refine g_if_eq (fun c1951 => ?_) (fun c1951 => ?_)
                                  · refine g_iload_n rfl ?_
                                    refine g_iconst (by decide) (fun v1952 kv1952 => ?_)
                                    refine g_if2_ne (fun c1953 => ?_) (fun c1953 => ?_)
                                    · refine g_iload_n rfl ?_
                                      refine g_iconst (by decide) (fun v1954 kv1954 => ?_)
                                      refine g_if2_ne (fun c1955 => ?_) (fun c1955 => ?_)
                                      · refine g_aload_n rfl ?_
                                        refine g_iload_n rfl ?_
                                        refine g_iconst (by decide) (fun v1956 kv1956 => ?_)
                                        refine g_bipush (by decide) (fun v1957 kv1957 => ?_)
                                        refine g_bipush (by decide) (fun v1958 kv1958 => ?_)
                                        refine g_invvi hI sm_0 rfl rfl rfl rfl (s_190 v1864 v1956 v1957 v1958 H hI (JM_n hJ)) (fun v1961 H1959 r1960 => ?_)
                                        obtain ⟨rfl, bv1961⟩ := r1960
                                        refine g_if_eq (fun c1962 => ?_) (fun c1962 => ?_)
                                        · refine g_iload_n rfl ?_
                                          refine g_iconst (by decide) (fun v1963 kv1963 => ?_)
                                          refine g_if2_eq (fun c1964 => ?_) (fun c1964 => ?_)
                                          · exfalso; omega
                                          · refine g_iload_n rfl ?_
                                            refine g_bipush (by decide) (fun v1965 kv1965 => ?_)
                                            refine g_if2_ne (fun c1966 => ?_) (fun c1966 => ?_)
                                            · refine g_iload rfl ?_
                                              refine g_if_ne (fun c1967 => ?_) (fun c1967 => ?_)
                                              · exfalso; omega
                                              · refine g_iload_n rfl ?_
                                                refine g_bipush (by decide) (fun v1968 kv1968 => ?_)
                                                refine g_if2_ne (fun c1969 => ?_) (fun c1969 => ?_)
                                                · refine g_iload_n rfl ?_
                                                  refine g_bipush (by decide) (fun v1970 kv1970 => ?_)
                                                  refine g_if2_ne (fun c1971 => ?_) (fun c1971 => ?_)
                                                  · refine g_iconst (by decide) (fun v1972 kv1972 => ?_)
                                                    refine g_nop ?_
                                                    exact g_iret ⟨_, rfl, rfl, (fun w n o ew en eo hv => by rw [show w = v1864 from ew.trans tv1864.symm, show n = v1869 from en.trans tv1869.symm, show o = v1874 from eo.trans tv1874.symm]; first | (exfalso; omega) | exact ⟨fun _ => by omega, fun _ => by omega, fun _ => by omega⟩)⟩
                                                  · exfalso; omega
                                                · exfalso; omega
                                            · exfalso; omega
                                        · refine g_aload_n rfl ?_
                                          refine g_gfr hI sm_0 rfl ?_
                                          refine g_iload_n rfl ?_
                                          refine g_ialoadk hI sm_9 rfl (by omega) ev1945 ?_
                                          refine g_bipush (by decide) (fun v1973 kv1973 => ?_)
                                          refine g_if2_eq (fun c1974 => ?_) (fun c1974 => ?_)
                                          · refine g_iload_n rfl ?_
                                            refine g_iconst (by decide) (fun v1975 kv1975 => ?_)
                                            refine g_if2_eq (fun c1976 => ?_) (fun c1976 => ?_)
                                            · exfalso; omega
                                            · refine g_iload_n rfl ?_
                                              refine g_bipush (by decide) (fun v1977 kv1977 => ?_)
                                              refine g_if2_ne (fun c1978 => ?_) (fun c1978 => ?_)
                                              · refine g_iload rfl ?_
                                                refine g_if_ne (fun c1979 => ?_) (fun c1979 => ?_)
                                                · exfalso; omega
                                                · refine g_iload_n rfl ?_
                                                  refine g_bipush (by decide) (fun v1980 kv1980 => ?_)
                                                  refine g_if2_ne (fun c1981 => ?_) (fun c1981 => ?_)
                                                  · refine g_iload_n rfl ?_
                                                    refine g_bipush (by decide) (fun v1982 kv1982 => ?_)
                                                    refine g_if2_ne (fun c1983 => ?_) (fun c1983 => ?_)
                                                    · refine g_iconst (by decide) (fun v1984 kv1984 => ?_)
                                                      refine g_nop ?_
                                                      exact g_iret ⟨_, rfl, rfl, (fun w n o ew en eo hv => by rw [show w = v1864 from ew.trans tv1864.symm, show n = v1869 from en.trans tv1869.symm, show o = v1874 from eo.trans tv1874.symm]; first | (exfalso; omega) | exact ⟨fun _ => by omega, fun _ => by omega, fun _ => by omega⟩)⟩
                                                    · exfalso; omega
                                                  · exfalso; omega
                                              · exfalso; omega
                                          · exfalso; omega
                                      · exfalso; omega
                                    · exfalso; omega
                                  · exfalso; omega
                                · refine g_nop ?_
                                  refine g_bipush (by decide) (fun v1985 kv1985 => ?_)
                                  exact g_iret ⟨_, rfl, rfl, (fun w n o ew en eo hv => by rw [show w = v1864 from ew.trans tv1864.symm, show n = v1869 from en.trans tv1869.symm, show o = v1874 from eo.trans tv1874.symm]; first | (exfalso; omega) | exact ⟨fun _ => by omega, fun _ => by omega, fun _ => by omega⟩)⟩
                          · exfalso; omega
                        · exfalso; omega
                      · refine g_iconst (by decide) (fun v1986 kv1986 => ?_)
                        refine g_goto ?_
                        refine g_istore (l' := [(0, .ref 0), (1, .int a1), (2, .int v1864), (3, .int v1869), (4, .int v1874), (5, .int v1878), (6, .int v1986)]) rfl rfl ?_
                        refine g_iload rfl ?_
                        refine g_if_eq (fun c1987 => ?_) (fun c1987 => ?_)
                        · exfalso; omega
                        · refine g_aload_n rfl ?_
                          refine g_gfr hI sm_0 rfl ?_
                          refine g_aload_n rfl ?_
                          refine g_iload_n rfl ?_
                          refine g_invvi hI sm_0 rfl rfl rfl rfl (s_185 v1869 (by omega) H hI hJ) (fun v1990 H1988 r1989 => ?_)
                          obtain ⟨rfl, bv1990⟩ := r1989
                          refine g_baload hI sm_15 rfl (by omega) (fun v1991 ev1991 lv1991 uv1991 => ?_)
                          refine g_if_ne (fun c1992 => ?_) (fun c1992 => ?_)
                          · refine g_bipush (by decide) (fun v1993 kv1993 => ?_)
                            exact g_iret ⟨_, rfl, rfl, (fun w n o ew en eo hv => by rw [show w = v1864 from ew.trans tv1864.symm, show n = v1869 from en.trans tv1869.symm, show o = v1874 from eo.trans tv1874.symm]; first | (exfalso; omega) | exact ⟨fun _ => by omega, fun _ => by omega, fun _ => by omega⟩)⟩
                          · refine g_nop ?_
                            refine g_iload rfl ?_
                            refine g_if_eq (fun c1994 => ?_) (fun c1994 => ?_)
                            · refine g_iload_n rfl ?_
                              refine g_bipush (by decide) (fun v1995 kv1995 => ?_)
                              refine g_if2_ne (fun c1996 => ?_) (fun c1996 => ?_)
                              · refine g_iload rfl ?_
                                refine g_if_eq (fun c1997 => ?_) (fun c1997 => ?_)
                                · refine g_iload_n rfl ?_
                                  refine g_iconst (by decide) (fun v1998 kv1998 => ?_)
                                  refine g_if2_ne (fun c1999 => ?_) (fun c1999 => ?_)
                                  · refine g_iload_n rfl ?_
                                    refine g_iconst (by decide) (fun v2000 kv2000 => ?_)
                                    refine g_if2_ne (fun c2001 => ?_) (fun c2001 => ?_)
                                    · refine g_aload_n rfl ?_
                                      refine g_iload_n rfl ?_
                                      refine g_iconst (by decide) (fun v2002 kv2002 => ?_)
                                      refine g_bipush (by decide) (fun v2003 kv2003 => ?_)
                                      refine g_bipush (by decide) (fun v2004 kv2004 => ?_)
                                      refine g_invvi hI sm_0 rfl rfl rfl rfl (s_190 v1864 v2002 v2003 v2004 H hI (JM_n hJ)) (fun v2007 H2005 r2006 => ?_)
                                      obtain ⟨rfl, bv2007⟩ := r2006
                                      refine g_if_eq (fun c2008 => ?_) (fun c2008 => ?_)
                                      · refine g_iload_n rfl ?_
                                        refine g_iconst (by decide) (fun v2009 kv2009 => ?_)
                                        refine g_if2_eq (fun c2010 => ?_) (fun c2010 => ?_)
                                        · refine g_aload_n rfl ?_
                                          refine g_iload_n rfl ?_
                                          refine g_iload rfl ?_
                                          refine g_aload_n rfl ?_
                                          refine g_gfr hI sm_0 rfl ?_
                                          refine g_iload_n rfl ?_
                                          refine g_iaload hI sm_18 rfl (by omega) (fun v2011 ev2011 lv2011 uv2011 => ?_)
                                          refine g_invvi hI sm_0 rfl rfl rfl rfl (s_189 v1869 (by omega) v1874 (by omega) v2011 H hI hJ) (fun v2014 H2012 r2013 => ?_)
                                          obtain ⟨rfl, bv2014⟩ := r2013
                                          refine g_if_eq (fun c2015 => ?_) (fun c2015 => ?_)
                                          · refine g_iload rfl ?_
                                            refine g_if_ne (fun c2016 => ?_) (fun c2016 => ?_)
                                            · exfalso; omega
                                            · refine g_iload_n rfl ?_
                                              refine g_bipush (by decide) (fun v2017 kv2017 => ?_)
                                              refine g_if2_ne (fun c2018 => ?_) (fun c2018 => ?_)
                                              · refine g_iload_n rfl ?_
                                                refine g_bipush (by decide) (fun v2019 kv2019 => ?_)
                                                refine g_if2_ne (fun c2020 => ?_) (fun c2020 => ?_)
                                                · refine g_iconst (by decide) (fun v2021 kv2021 => ?_)
                                                  refine g_nop ?_
                                                  exact g_iret ⟨_, rfl, rfl, (fun w n o ew en eo hv => by rw [show w = v1864 from ew.trans tv1864.symm, show n = v1869 from en.trans tv1869.symm, show o = v1874 from eo.trans tv1874.symm]; first | (exfalso; omega) | exact ⟨fun _ => by omega, fun _ => by omega, fun _ => by omega⟩)⟩
                                                · exfalso; omega
                                              · exfalso; omega
                                          · refine g_bipush (by decide) (fun v2022 kv2022 => ?_)
                                            exact g_iret ⟨_, rfl, rfl, (fun w n o ew en eo hv => by rw [show w = v1864 from ew.trans tv1864.symm, show n = v1869 from en.trans tv1869.symm, show o = v1874 from eo.trans tv1874.symm]; first | (exfalso; omega) | exact ⟨fun _ => by omega, fun _ => by omega, fun _ => by omega⟩)⟩
                                        · refine g_iload_n rfl ?_
                                          refine g_bipush (by decide) (fun v2023 kv2023 => ?_)
                                          refine g_if2_ne (fun c2024 => ?_) (fun c2024 => ?_)
                                          · refine g_iload rfl ?_
                                            refine g_if_ne (fun c2025 => ?_) (fun c2025 => ?_)
                                            · exfalso; omega
                                            · refine g_iload_n rfl ?_
                                              refine g_bipush (by decide) (fun v2026 kv2026 => ?_)
                                              refine g_if2_ne (fun c2027 => ?_) (fun c2027 => ?_)
                                              · refine g_iload_n rfl ?_
                                                refine g_bipush (by decide) (fun v2028 kv2028 => ?_)
                                                refine g_if2_ne (fun c2029 => ?_) (fun c2029 => ?_)
                                                · refine g_iconst (by decide) (fun v2030 kv2030 => ?_)
                                                  refine g_nop ?_
                                                  exact g_iret ⟨_, rfl, rfl, (fun w n o ew en eo hv => by rw [show w = v1864 from ew.trans tv1864.symm, show n = v1869 from en.trans tv1869.symm, show o = v1874 from eo.trans tv1874.symm]; first | (exfalso; omega) | exact ⟨fun _ => by omega, fun _ => by omega, fun _ => by omega⟩)⟩
                                                · exfalso; omega
                                              · refine g_nop ?_
                                                refine g_aload_n rfl ?_
                                                refine g_iload_n rfl ?_
                                                refine g_invvi hI sm_0 rfl rfl rfl rfl (s_187 v1869 H hI hJ) (fun v2033 H2031 r2032 => ?_)
                                                obtain ⟨rfl, bv2033⟩ := r2032
                                                refine g_if_eq (fun c2034 => ?_) (fun c2034 => ?_)
                                                · refine g_iload_n rfl ?_
                                                  refine g_bipush (by decide) (fun v2035 kv2035 => ?_)
                                                  refine g_if2_ne (fun c2036 => ?_) (fun c2036 => ?_)
                                                  · refine g_iconst (by decide) (fun v2037 kv2037 => ?_)
                                                    refine g_nop ?_
                                                    exact g_iret ⟨_, rfl, rfl, (fun w n o ew en eo hv => by rw [show w = v1864 from ew.trans tv1864.symm, show n = v1869 from en.trans tv1869.symm, show o = v1874 from eo.trans tv1874.symm]; first | (exfalso; omega) | exact ⟨fun _ => by omega, fun _ => by omega, fun _ => by omega⟩)⟩
                                                  · exfalso; omega
                                                · refine g_bipush (by decide) (fun v2038 kv2038 => ?_)
                                                  exact g_iret ⟨_, rfl, rfl, (fun w n o ew en eo hv => by rw [show w = v1864 from ew.trans tv1864.symm, show n = v1869 from en.trans tv1869.symm, show o = v1874 from eo.trans tv1874.symm]; first | (exfalso; omega) | exact ⟨fun _ => by omega, fun _ => by omega, fun _ => by omega⟩)⟩
                                          · refine g_nop ?_
                                            refine g_aload_n rfl ?_
                                            refine g_iload_n rfl ?_
                                            refine g_iload rfl ?_
                                            refine g_aload_n rfl ?_
                                            refine g_gfr hI sm_0 rfl ?_
                                            refine g_iload_n rfl ?_
                                            refine g_iaload hI sm_18 rfl (by omega) (fun v2039 ev2039 lv2039 uv2039 => ?_)
                                            refine g_invvi hI sm_0 rfl rfl rfl rfl (s_189 v1869 (by omega) v1874 (by omega) v2039 H hI hJ) (fun v2042 H2040 r2041 => ?_)
                                            obtain ⟨rfl, bv2042⟩ := r2041
                                            refine g_if_eq (fun c2043 => ?_) (fun c2043 => ?_)
                                            · refine g_iload rfl ?_
                                              refine g_if_ne (fun c2044 => ?_) (fun c2044 => ?_)
                                              · exfalso; omega
                                              · refine g_iload_n rfl ?_
                                                refine g_bipush (by decide) (fun v2045 kv2045 => ?_)
                                                refine g_if2_ne (fun c2046 => ?_) (fun c2046 => ?_)
                                                · refine g_iload_n rfl ?_
                                                  refine g_bipush (by decide) (fun v2047 kv2047 => ?_)
                                                  refine g_if2_ne (fun c2048 => ?_) (fun c2048 => ?_)
                                                  · refine g_iconst (by decide) (fun v2049 kv2049 => ?_)
                                                    refine g_nop ?_
                                                    exact g_iret ⟨_, rfl, rfl, (fun w n o ew en eo hv => by rw [show w = v1864 from ew.trans tv1864.symm, show n = v1869 from en.trans tv1869.symm, show o = v1874 from eo.trans tv1874.symm]; first | (exfalso; omega) | exact ⟨fun _ => by omega, fun _ => by omega, fun _ => by omega⟩)⟩
                                                  · exfalso; omega
                                                · exfalso; omega
                                            · refine g_bipush (by decide) (fun v2050 kv2050 => ?_)
                                              exact g_iret ⟨_, rfl, rfl, (fun w n o ew en eo hv => by rw [show w = v1864 from ew.trans tv1864.symm, show n = v1869 from en.trans tv1869.symm, show o = v1874 from eo.trans tv1874.symm]; first | (exfalso; omega) | exact ⟨fun _ => by omega, fun _ => by omega, fun _ => by omega⟩)⟩
                                      · refine g_aload_n rfl ?_
                                        refine g_gfr hI sm_0 rfl ?_
                                        refine g_iload_n rfl ?_
                                        refine g_iaload hI sm_9 rfl (by omega) (fun v2051 ev2051 lv2051 uv2051 => ?_)
                                        have qv2051 := JM_in hJ (by omega) ev2051
                                        have yv2051 : v2051.toInt = (aZ H 9 v1869.toInt.toNat).toInt := by rw [ev2051]
                                        refine g_bipush (by decide) (fun v2052 kv2052 => ?_)
                                        refine g_if2_eq (fun c2053 => ?_) (fun c2053 => ?_)
                                        · refine g_iload_n rfl ?_
                                          refine g_iconst (by decide) (fun v2054 kv2054 => ?_)
                                          refine g_if2_eq (fun c2055 => ?_) (fun c2055 => ?_)
                                          · refine g_aload_n rfl ?_
                                            refine g_iload_n rfl ?_
                                            refine g_iload rfl ?_
                                            refine g_aload_n rfl ?_
                                            refine g_gfr hI sm_0 rfl ?_
                                            refine g_iload_n rfl ?_
                                            refine g_iaload hI sm_18 rfl (by omega) (fun v2056 ev2056 lv2056 uv2056 => ?_)
                                            refine g_invvi hI sm_0 rfl rfl rfl rfl (s_189 v1869 (by omega) v1874 (by omega) v2056 H hI hJ) (fun v2059 H2057 r2058 => ?_)
                                            obtain ⟨rfl, bv2059⟩ := r2058
                                            refine g_if_eq (fun c2060 => ?_) (fun c2060 => ?_)
                                            · refine g_iload rfl ?_
                                              refine g_if_ne (fun c2061 => ?_) (fun c2061 => ?_)
                                              · exfalso; omega
                                              · refine g_iload_n rfl ?_
                                                refine g_bipush (by decide) (fun v2062 kv2062 => ?_)
                                                refine g_if2_ne (fun c2063 => ?_) (fun c2063 => ?_)
                                                · refine g_iload_n rfl ?_
                                                  refine g_bipush (by decide) (fun v2064 kv2064 => ?_)
                                                  refine g_if2_ne (fun c2065 => ?_) (fun c2065 => ?_)
                                                  · refine g_iconst (by decide) (fun v2066 kv2066 => ?_)
                                                    refine g_nop ?_
                                                    exact g_iret ⟨_, rfl, rfl, (fun w n o ew en eo hv => by rw [show w = v1864 from ew.trans tv1864.symm, show n = v1869 from en.trans tv1869.symm, show o = v1874 from eo.trans tv1874.symm]; first | (exfalso; omega) | exact ⟨fun _ => by omega, fun _ => by omega, fun _ => by omega⟩)⟩
                                                  · exfalso; omega
                                                · exfalso; omega
                                            · refine g_bipush (by decide) (fun v2067 kv2067 => ?_)
                                              exact g_iret ⟨_, rfl, rfl, (fun w n o ew en eo hv => by rw [show w = v1864 from ew.trans tv1864.symm, show n = v1869 from en.trans tv1869.symm, show o = v1874 from eo.trans tv1874.symm]; first | (exfalso; omega) | exact ⟨fun _ => by omega, fun _ => by omega, fun _ => by omega⟩)⟩
                                          · refine g_iload_n rfl ?_
                                            refine g_bipush (by decide) (fun v2068 kv2068 => ?_)
                                            refine g_if2_ne (fun c2069 => ?_) (fun c2069 => ?_)
                                            · refine g_iload rfl ?_
                                              refine g_if_ne (fun c2070 => ?_) (fun c2070 => ?_)
                                              · exfalso; omega
                                              · refine g_iload_n rfl ?_
                                                refine g_bipush (by decide) (fun v2071 kv2071 => ?_)
                                                refine g_if2_ne (fun c2072 => ?_) (fun c2072 => ?_)
                                                · refine g_iload_n rfl ?_
                                                  refine g_bipush (by decide) (fun v2073 kv2073 => ?_)
                                                  refine g_if2_ne (fun c2074 => ?_) (fun c2074 => ?_)
                                                  · refine g_iconst (by decide) (fun v2075 kv2075 => ?_)
                                                    refine g_nop ?_
                                                    exact g_iret ⟨_, rfl, rfl, (fun w n o ew en eo hv => by rw [show w = v1864 from ew.trans tv1864.symm, show n = v1869 from en.trans tv1869.symm, show o = v1874 from eo.trans tv1874.symm]; first | (exfalso; omega) | exact ⟨fun _ => by omega, fun _ => by omega, fun _ => by omega⟩)⟩
                                                  · exfalso; omega
                                                · refine g_nop ?_
                                                  refine g_aload_n rfl ?_
                                                  refine g_iload_n rfl ?_
                                                  refine g_invvi hI sm_0 rfl rfl rfl rfl (s_187 v1869 H hI hJ) (fun v2078 H2076 r2077 => ?_)
                                                  obtain ⟨rfl, bv2078⟩ := r2077
                                                  refine g_if_eq (fun c2079 => ?_) (fun c2079 => ?_)
                                                  · refine g_iload_n rfl ?_
                                                    refine g_bipush (by decide) (fun v2080 kv2080 => ?_)
                                                    refine g_if2_ne (fun c2081 => ?_) (fun c2081 => ?_)
                                                    · refine g_iconst (by decide) (fun v2082 kv2082 => ?_)
                                                      refine g_nop ?_
                                                      exact g_iret ⟨_, rfl, rfl, (fun w n o ew en eo hv => by rw [show w = v1864 from ew.trans tv1864.symm, show n = v1869 from en.trans tv1869.symm, show o = v1874 from eo.trans tv1874.symm]; first | (exfalso; omega) | exact ⟨fun _ => by omega, fun _ => by omega, fun _ => by omega⟩)⟩
                                                    · exfalso; omega
                                                  · refine g_bipush (by decide) (fun v2083 kv2083 => ?_)
                                                    exact g_iret ⟨_, rfl, rfl, (fun w n o ew en eo hv => by rw [show w = v1864 from ew.trans tv1864.symm, show n = v1869 from en.trans tv1869.symm, show o = v1874 from eo.trans tv1874.symm]; first | (exfalso; omega) | exact ⟨fun _ => by omega, fun _ => by omega, fun _ => by omega⟩)⟩
                                            · refine g_nop ?_
                                              refine g_aload_n rfl ?_
                                              refine g_iload_n rfl ?_
                                              refine g_iload rfl ?_
                                              refine g_aload_n rfl ?_
                                              refine g_gfr hI sm_0 rfl ?_
                                              refine g_iload_n rfl ?_
                                              refine g_iaload hI sm_18 rfl (by omega) (fun v2084 ev2084 lv2084 uv2084 => ?_)
                                              refine g_invvi hI sm_0 rfl rfl rfl rfl (s_189 v1869 (by omega) v1874 (by omega) v2084 H hI hJ) (fun v2087 H2085 r2086 => ?_)
                                              obtain ⟨rfl, bv2087⟩ := r2086
                                              refine g_if_eq (fun c2088 => ?_) (fun c2088 => ?_)
                                              · refine g_iload rfl ?_
                                                refine g_if_ne (fun c2089 => ?_) (fun c2089 => ?_)
                                                · exfalso; omega
                                                · refine g_iload_n rfl ?_
                                                  refine g_bipush (by decide) (fun v2090 kv2090 => ?_)
                                                  refine g_if2_ne (fun c2091 => ?_) (fun c2091 => ?_)
                                                  · refine g_iload_n rfl ?_
                                                    refine g_bipush (by decide) (fun v2092 kv2092 => ?_)
                                                    refine g_if2_ne (fun c2093 => ?_) (fun c2093 => ?_)
                                                    · refine g_iconst (by decide) (fun v2094 kv2094 => ?_)
                                                      refine g_nop ?_
                                                      exact g_iret ⟨_, rfl, rfl, (fun w n o ew en eo hv => by rw [show w = v1864 from ew.trans tv1864.symm, show n = v1869 from en.trans tv1869.symm, show o = v1874 from eo.trans tv1874.symm]; first | (exfalso; omega) | exact ⟨fun _ => by omega, fun _ => by omega, fun _ => by omega⟩)⟩
                                                    · exfalso; omega
                                                  · exfalso; omega
                                              · refine g_bipush (by decide) (fun v2095 kv2095 => ?_)
                                                exact g_iret ⟨_, rfl, rfl, (fun w n o ew en eo hv => by rw [show w = v1864 from ew.trans tv1864.symm, show n = v1869 from en.trans tv1869.symm, show o = v1874 from eo.trans tv1874.symm]; first | (exfalso; omega) | exact ⟨fun _ => by omega, fun _ => by omega, fun _ => by omega⟩)⟩
                                        · refine g_bipush (by decide) (fun v2096 kv2096 => ?_)
                                          exact g_iret ⟨_, rfl, rfl, (fun w n o ew en eo hv => by rw [show w = v1864 from ew.trans tv1864.symm, show n = v1869 from en.trans tv1869.symm, show o = v1874 from eo.trans tv1874.symm]; first | (exfalso; omega) | exact ⟨fun _ => by omega, fun _ => by omega, fun _ => by omega⟩)⟩
                                    · refine g_aload_n rfl ?_
                                      refine g_gfr hI sm_0 rfl ?_
                                      refine g_iload_n rfl ?_
                                      refine g_baload hI sm_13 rfl (by omega) (fun v2097 ev2097 lv2097 uv2097 => ?_)
                                      refine g_if_ne (fun c2098 => ?_) (fun c2098 => ?_)
                                      · refine g_aload_n rfl ?_
                                        refine g_iload_n rfl ?_
                                        refine g_iconst (by decide) (fun v2099 kv2099 => ?_)
                                        refine g_bipush (by decide) (fun v2100 kv2100 => ?_)
                                        refine g_bipush (by decide) (fun v2101 kv2101 => ?_)
                                        refine g_invvi hI sm_0 rfl rfl rfl rfl (s_190 v1864 v2099 v2100 v2101 H hI (JM_n hJ)) (fun v2104 H2102 r2103 => ?_)
                                        obtain ⟨rfl, bv2104⟩ := r2103
                                        refine g_if_eq (fun c2105 => ?_) (fun c2105 => ?_)
                                        · refine g_iload_n rfl ?_
                                          refine g_iconst (by decide) (fun v2106 kv2106 => ?_)
                                          refine g_if2_eq (fun c2107 => ?_) (fun c2107 => ?_)
                                          · exfalso; omega
                                          · refine g_iload_n rfl ?_
                                            refine g_bipush (by decide) (fun v2108 kv2108 => ?_)
                                            refine g_if2_ne (fun c2109 => ?_) (fun c2109 => ?_)
                                            · refine g_iload rfl ?_
                                              refine g_if_ne (fun c2110 => ?_) (fun c2110 => ?_)
                                              · exfalso; omega
                                              · refine g_iload_n rfl ?_
                                                refine g_bipush (by decide) (fun v2111 kv2111 => ?_)
                                                refine g_if2_ne (fun c2112 => ?_) (fun c2112 => ?_)
                                                · refine g_iload_n rfl ?_
                                                  refine g_bipush (by decide) (fun v2113 kv2113 => ?_)
                                                  refine g_if2_ne (fun c2114 => ?_) (fun c2114 => ?_)
                                                  · refine g_iconst (by decide) (fun v2115 kv2115 => ?_)
                                                    refine g_nop ?_
                                                    exact g_iret ⟨_, rfl, rfl, (fun w n o ew en eo hv => by rw [show w = v1864 from ew.trans tv1864.symm, show n = v1869 from en.trans tv1869.symm, show o = v1874 from eo.trans tv1874.symm]; first | (exfalso; omega) | exact ⟨fun _ => by omega, fun _ => by omega, fun _ => by omega⟩)⟩
                                                  · exfalso; omega
                                                · exfalso; omega
                                            · exfalso; omega
                                        · refine g_aload_n rfl ?_
                                          refine g_gfr hI sm_0 rfl ?_
                                          refine g_iload_n rfl ?_
                                          refine g_iaload hI sm_9 rfl (by omega) (fun v2116 ev2116 lv2116 uv2116 => ?_)
                                          have qv2116 := JM_in hJ (by omega) ev2116
                                          have yv2116 : v2116.toInt = (aZ H 9 v1869.toInt.toNat).toInt := by rw [ev2116]
                                          refine g_bipush (by decide) (fun v2117 kv2117 => ?_)
                                          refine g_if2_eq (fun c2118 => ?_) (fun c2118 => ?_)
                                          · refine g_iload_n rfl ?_
                                            refine g_iconst (by decide) (fun v2119 kv2119 => ?_)
                                            refine g_if2_eq (fun c2120 => ?_) (fun c2120 => ?_)
                                            · exfalso; omega
                                            · refine g_iload_n rfl ?_
                                              refine g_bipush (by decide) (fun v2121 kv2121 => ?_)
                                              refine g_if2_ne (fun c2122 => ?_) (fun c2122 => ?_)
                                              · refine g_iload rfl ?_
                                                refine g_if_ne (fun c2123 => ?_) (fun c2123 => ?_)
                                                · exfalso; omega
                                                · refine g_iload_n rfl ?_
                                                  refine g_bipush (by decide) (fun v2124 kv2124 => ?_)
                                                  refine g_if2_ne (fun c2125 => ?_) (fun c2125 => ?_)
                                                  · refine g_iload_n rfl ?_
                                                    refine g_bipush (by decide) (fun v2126 kv2126 => ?_)
                                                    refine g_if2_ne (fun c2127 => ?_) (fun c2127 => ?_)
                                                    · refine g_iconst (by decide) (fun v2128 kv2128 => ?_)
                                                      refine g_nop ?_
                                                      exact g_iret ⟨_, rfl, rfl, (fun w n o ew en eo hv => by rw [show w = v1864 from ew.trans tv1864.symm, show n = v1869 from en.trans tv1869.symm, show o = v1874 from eo.trans tv1874.symm]; first | (exfalso; omega) | exact ⟨fun _ => by omega, fun _ => by omega, fun _ => by omega⟩)⟩
                                                    · exfalso; omega
                                                  · exfalso; omega
                                              · exfalso; omega
                                          · refine g_bipush (by decide) (fun v2129 kv2129 => ?_)
                                            exact g_iret ⟨_, rfl, rfl, (fun w n o ew en eo hv => by rw [show w = v1864 from ew.trans tv1864.symm, show n = v1869 from en.trans tv1869.symm, show o = v1874 from eo.trans tv1874.symm]; first | (exfalso; omega) | exact ⟨fun _ => by omega, fun _ => by omega, fun _ => by omega⟩)⟩
                                      · refine g_nop ?_
                                        refine g_bipush (by decide) (fun v2130 kv2130 => ?_)
                                        exact g_iret ⟨_, rfl, rfl, (fun w n o ew en eo hv => by rw [show w = v1864 from ew.trans tv1864.symm, show n = v1869 from en.trans tv1869.symm, show o = v1874 from eo.trans tv1874.symm]; first | (exfalso; omega) | exact ⟨fun _ => by omega, fun _ => by omega, fun _ => by omega⟩)⟩
                                  · refine g_aload_n rfl ?_
                                    refine g_gfr hI sm_0 rfl ?_
                                    refine g_iload_n rfl ?_
                                    refine g_baload hI sm_13 rfl (by omega) (fun v2131 ev2131 lv2131 uv2131 => ?_)
                                    refine g_if_ne (fun c2132 => ?_) (fun c2132 => ?_)
                                    · refine g_bipush (by decide) (fun v2133 kv2133 => ?_)
                                      exact g_iret ⟨_, rfl, rfl, (fun w n o ew en eo hv => by rw [show w = v1864 from ew.trans tv1864.symm, show n = v1869 from en.trans tv1869.symm, show o = v1874 from eo.trans tv1874.symm]; first | (exfalso; omega) | exact ⟨fun _ => by omega, fun _ => by omega, fun _ => by omega⟩)⟩
                                    · refine g_aload_n rfl ?_
                                      refine g_gfr hI sm_0 rfl ?_
                                      refine g_iload_n rfl ?_
                                      refine g_iaload hI sm_8 rfl (by omega) (fun v2134 ev2134 lv2134 uv2134 => ?_)
                                      have yv2134 : v2134.toInt = (aZ H 8 v1869.toInt.toNat).toInt := by rw [ev2134]
                                      refine g_if_eq (fun c2135 => ?_) (fun c2135 => ?_)
                                      · refine g_bipush (by decide) (fun v2136 kv2136 => ?_)
                                        exact g_iret ⟨_, rfl, rfl, (fun w n o ew en eo hv => by rw [show w = v1864 from ew.trans tv1864.symm, show n = v1869 from en.trans tv1869.symm, show o = v1874 from eo.trans tv1874.symm]; first | (exfalso; omega) | exact ⟨fun _ => by omega, fun _ => by omega, fun _ => by omega⟩)⟩
                                      · refine g_nop ?_
                                        refine g_iload_n rfl ?_
                                        refine g_iconst (by decide) (fun v2137 kv2137 => ?_)
                                        refine g_if2_ne (fun c2138 => ?_) (fun c2138 => ?_)
                                        · refine g_aload_n rfl ?_
                                          refine g_iload_n rfl ?_
                                          refine g_iconst (by decide) (fun v2139 kv2139 => ?_)
                                          refine g_bipush (by decide) (fun v2140 kv2140 => ?_)
                                          refine g_bipush (by decide) (fun v2141 kv2141 => ?_)
                                          refine g_invvi hI sm_0 rfl rfl rfl rfl (s_190 v1864 v2139 v2140 v2141 H hI (JM_n hJ)) (fun v2144 H2142 r2143 => ?_)
                                          obtain ⟨rfl, bv2144⟩ := r2143
                                          refine g_if_eq (fun c2145 => ?_) (fun c2145 => ?_)
                                          · refine g_iload_n rfl ?_
                                            refine g_iconst (by decide) (fun v2146 kv2146 => ?_)
                                            refine g_if2_eq (fun c2147 => ?_) (fun c2147 => ?_)
                                            · exfalso; omega
                                            · refine g_iload_n rfl ?_
                                              refine g_bipush (by decide) (fun v2148 kv2148 => ?_)
                                              refine g_if2_ne (fun c2149 => ?_) (fun c2149 => ?_)
                                              · refine g_iload rfl ?_
                                                refine g_if_ne (fun c2150 => ?_) (fun c2150 => ?_)
                                                · exfalso; omega
                                                · refine g_iload_n rfl ?_
                                                  refine g_bipush (by decide) (fun v2151 kv2151 => ?_)
                                                  refine g_if2_ne (fun c2152 => ?_) (fun c2152 => ?_)
                                                  · refine g_iload_n rfl ?_
                                                    refine g_bipush (by decide) (fun v2153 kv2153 => ?_)
                                                    refine g_if2_ne (fun c2154 => ?_) (fun c2154 => ?_)
                                                    · refine g_iconst (by decide) (fun v2155 kv2155 => ?_)
                                                      refine g_nop ?_
                                                      exact g_iret ⟨_, rfl, rfl, (fun w n o ew en eo hv => by rw [show w = v1864 from ew.trans tv1864.symm, show n = v1869 from en.trans tv1869.symm, show o = v1874 from eo.trans tv1874.symm]; first | (exfalso; omega) | exact ⟨fun _ => by omega, fun _ => by omega, fun _ => by omega⟩)⟩
                                                    · exfalso; omega
                                                  · exfalso; omega
                                              · exfalso; omega
                                          · refine g_aload_n rfl ?_
                                            refine g_gfr hI sm_0 rfl ?_
                                            refine g_iload_n rfl ?_
                                            refine g_iaload hI sm_9 rfl (by omega) (fun v2156 ev2156 lv2156 uv2156 => ?_)
                                            have qv2156 := JM_in hJ (by omega) ev2156
                                            have yv2156 : v2156.toInt = (aZ H 9 v1869.toInt.toNat).toInt := by rw [ev2156]
                                            refine g_bipush (by decide) (fun v2157 kv2157 => ?_)
                                            refine g_if2_eq (fun c2158 => ?_) (fun c2158 => ?_)
                                            · refine g_iload_n rfl ?_
                                              refine g_iconst (by decide) (fun v2159 kv2159 => ?_)
                                              refine g_if2_eq (fun c2160 => ?_) (fun c2160 => ?_)
                                              · exfalso; omega
                                              · refine g_iload_n rfl ?_
                                                refine g_bipush (by decide) (fun v2161 kv2161 => ?_)
                                                refine g_if2_ne (fun c2162 => ?_) (fun c2162 => ?_)
                                                · refine g_iload rfl ?_
                                                  refine g_if_ne (fun c2163 => ?_) (fun c2163 => ?_)
                                                  · exfalso; omega
                                                  · refine g_iload_n rfl ?_
                                                    refine g_bipush (by decide) (fun v2164 kv2164 => ?_)
                                                    refine g_if2_ne (fun c2165 => ?_) (fun c2165 => ?_)
                                                    · refine g_iload_n rfl ?_
                                                      refine g_bipush (by decide) (fun v2166 kv2166 => ?_)
                                                      refine g_if2_ne (fun c2167 => ?_) (fun c2167 => ?_)
                                                      · refine g_iconst (by decide) (fun v2168 kv2168 => ?_)
                                                        refine g_nop ?_
                                                        exact g_iret ⟨_, rfl, rfl, (fun w n o ew en eo hv => by rw [show w = v1864 from ew.trans tv1864.symm, show n = v1869 from en.trans tv1869.symm, show o = v1874 from eo.trans tv1874.symm]; first | (exfalso; omega) | exact ⟨fun _ => by omega, fun _ => by omega, fun _ => by omega⟩)⟩
                                                      · exfalso; omega
                                                    · exfalso; omega
                                                · exfalso; omega
                                            · refine g_bipush (by decide) (fun v2169 kv2169 => ?_)
                                              exact g_iret ⟨_, rfl, rfl, (fun w n o ew en eo hv => by rw [show w = v1864 from ew.trans tv1864.symm, show n = v1869 from en.trans tv1869.symm, show o = v1874 from eo.trans tv1874.symm]; first | (exfalso; omega) | exact ⟨fun _ => by omega, fun _ => by omega, fun _ => by omega⟩)⟩
                                        · exfalso; omega
                                · exfalso; omega
                              · exfalso; omega
                            · exfalso; omega
                  · refine g_aload_n rfl ?_
                    refine g_gfr hI sm_0 rfl ?_
                    refine g_iload_n rfl ?_
                    refine g_iaload hI sm_9 rfl (by omega) (fun v2170 ev2170 lv2170 uv2170 => ?_)
                    have qv2170 := JM_in hJ (by omega) ev2170
                    have yv2170 : v2170.toInt = (aZ H 9 v1869.toInt.toNat).toInt := by rw [ev2170]
                    refine g_bipush (by decide) (fun v2171 kv2171 => ?_)
                    refine g_if2_ne (fun c2172 => ?_) (fun c2172 => ?_)
                    · refine g_iload_n rfl ?_
                      refine g_iconst (by decide) (fun v2173 kv2173 => ?_)
                      refine g_if2_lt (fun c2174 => ?_) (fun c2174 => ?_)
                      · exfalso; omega
                      · refine g_iload_n rfl ?_
                        refine g_bipush (by decide) (fun v2175 kv2175 => ?_)
                        refine g_if2_gt (fun c2176 => ?_) (fun c2176 => ?_)
                        · exfalso; omega
                        · refine g_iconst (by decide) (fun v2177 kv2177 => ?_)
                          refine g_goto ?_
                          refine g_istore (l' := [(0, .ref 0), (1, .int a1), (2, .int v1864), (3, .int v1869), (4, .int v1874), (5, .int v1878), (6, .int v2177)]) rfl rfl ?_
                          refine g_iload rfl ?_
                          refine g_if_eq (fun c2178 => ?_) (fun c2178 => ?_)
                          · exfalso; omega
                          · refine g_aload_n rfl ?_
                            refine g_gfr hI sm_0 rfl ?_
                            refine g_aload_n rfl ?_
                            refine g_iload_n rfl ?_
                            refine g_invvi hI sm_0 rfl rfl rfl rfl (s_185 v1869 (by omega) H hI hJ) (fun v2181 H2179 r2180 => ?_)
                            obtain ⟨rfl, bv2181⟩ := r2180
                            refine g_baload hI sm_15 rfl (by omega) (fun v2182 ev2182 lv2182 uv2182 => ?_)
                            refine g_if_ne (fun c2183 => ?_) (fun c2183 => ?_)
                            · refine g_bipush (by decide) (fun v2184 kv2184 => ?_)
                              exact g_iret ⟨_, rfl, rfl, (fun w n o ew en eo hv => by rw [show w = v1864 from ew.trans tv1864.symm, show n = v1869 from en.trans tv1869.symm, show o = v1874 from eo.trans tv1874.symm]; first | (exfalso; omega) | exact ⟨fun _ => by omega, fun _ => by omega, fun _ => by omega⟩)⟩
                            · refine g_nop ?_
                              refine g_iload rfl ?_
                              refine g_if_eq (fun c2185 => ?_) (fun c2185 => ?_)
                              · refine g_iload_n rfl ?_
                                refine g_bipush (by decide) (fun v2186 kv2186 => ?_)
                                refine g_if2_ne (fun c2187 => ?_) (fun c2187 => ?_)
                                · refine g_iload rfl ?_
                                  refine g_if_eq (fun c2188 => ?_) (fun c2188 => ?_)
                                  · refine g_iload_n rfl ?_
                                    refine g_iconst (by decide) (fun v2189 kv2189 => ?_)
                                    refine g_if2_ne (fun c2190 => ?_) (fun c2190 => ?_)
                                    · refine g_iload_n rfl ?_
                                      refine g_iconst (by decide) (fun v2191 kv2191 => ?_)
                                      refine g_if2_ne (fun c2192 => ?_) (fun c2192 => ?_)
                                      · refine g_aload_n rfl ?_
                                        refine g_iload_n rfl ?_
                                        refine g_iconst (by decide) (fun v2193 kv2193 => ?_)
                                        refine g_bipush (by decide) (fun v2194 kv2194 => ?_)
                                        refine g_bipush (by decide) (fun v2195 kv2195 => ?_)
                                        refine g_invvi hI sm_0 rfl rfl rfl rfl (s_190 v1864 v2193 v2194 v2195 H hI (JM_n hJ)) (fun v2198 H2196 r2197 => ?_)
                                        obtain ⟨rfl, bv2198⟩ := r2197
                                        refine g_if_eq (fun c2199 => ?_) (fun c2199 => ?_)
                                        · refine g_iload_n rfl ?_
                                          refine g_iconst (by decide) (fun v2200 kv2200 => ?_)
                                          refine g_if2_eq (fun c2201 => ?_) (fun c2201 => ?_)
                                          · exfalso; omega
                                          · refine g_iload_n rfl ?_
                                            refine g_bipush (by decide) (fun v2202 kv2202 => ?_)
                                            refine g_if2_ne (fun c2203 => ?_) (fun c2203 => ?_)
                                            · refine g_iload rfl ?_
                                              refine g_if_ne (fun c2204 => ?_) (fun c2204 => ?_)
                                              · exfalso; omega
                                              · refine g_iload_n rfl ?_
                                                refine g_bipush (by decide) (fun v2205 kv2205 => ?_)
                                                refine g_if2_ne (fun c2206 => ?_) (fun c2206 => ?_)
                                                · refine g_iload_n rfl ?_
                                                  refine g_bipush (by decide) (fun v2207 kv2207 => ?_)
                                                  refine g_if2_ne (fun c2208 => ?_) (fun c2208 => ?_)
                                                  · refine g_iconst (by decide) (fun v2209 kv2209 => ?_)
                                                    refine g_nop ?_
                                                    exact g_iret ⟨_, rfl, rfl, (fun w n o ew en eo hv => by rw [show w = v1864 from ew.trans tv1864.symm, show n = v1869 from en.trans tv1869.symm, show o = v1874 from eo.trans tv1874.symm]; first | (exfalso; omega) | exact ⟨fun _ => by omega, fun _ => by omega, fun _ => by omega⟩)⟩
                                                  · exfalso; omega
                                                · exfalso; omega
                                            · exfalso; omega
                                        · refine g_aload_n rfl ?_
                                          refine g_gfr hI sm_0 rfl ?_
                                          refine g_iload_n rfl ?_
                                          refine g_ialoadk hI sm_9 rfl (by omega) ev2170 ?_
                                          refine g_bipush (by decide) (fun v2210 kv2210 => ?_)
                                          refine g_if2_eq (fun c2211 => ?_) (fun c2211 => ?_)
                                          · exfalso; omega
                                          · refine g_bipush (by decide) (fun v2212 kv2212 => ?_)
                                            exact g_iret ⟨_, rfl, rfl, (fun w n o ew en eo hv => by rw [show w = v1864 from ew.trans tv1864.symm, show n = v1869 from en.trans tv1869.symm, show o = v1874 from eo.trans tv1874.symm]; first | (exfalso; omega) | exact ⟨fun _ => by omega, fun _ => by omega, fun _ => by omega⟩)⟩
                                      · exfalso; omega
                                    · exfalso; omega
                                  · exfalso; omega
                                · exfalso; omega
                              · exfalso; omega
                    · refine g_nop ?_
                      refine g_iconst (by decide) (fun v2213 kv2213 => ?_)
                      exact g_iret ⟨_, rfl, rfl, (fun w n o ew en eo hv => by rw [show w = v1864 from ew.trans tv1864.symm, show n = v1869 from en.trans tv1869.symm, show o = v1874 from eo.trans tv1874.symm]; first | (exfalso; omega) | exact ⟨fun _ => by omega, fun _ => by omega, fun _ => by omega⟩)⟩
                · exfalso; omega
              · exfalso; omega
            · exfalso; omega
        · exfalso; omega
    · refine g_aload_n rfl ?_
      refine g_gfr hI sm_0 rfl ?_
      refine g_iload_n rfl ?_
      refine g_baload hI sm_7 rfl (by omega) (fun v2214 ev2214 lv2214 uv2214 => ?_)
      have yv2214 : v2214.toInt = (aZ H 7 v1869.toInt.toNat).toInt := by rw [ev2214]
      refine g_if_eq (fun c2215 => ?_) (fun c2215 => ?_)
      · refine g_iconst (by decide) (fun v2216 kv2216 => ?_)
        refine g_nop ?_
        exact g_iret ⟨_, rfl, rfl, (fun w n o ew en eo hv => by rw [show w = v1864 from ew.trans tv1864.symm, show n = v1869 from en.trans tv1869.symm, show o = v1874 from eo.trans tv1874.symm]; first | (exfalso; omega) | exact ⟨fun _ => by omega, fun _ => by omega, fun _ => by omega⟩)⟩
      · refine g_iconst (by decide) (fun v2217 kv2217 => ?_)
        refine g_goto ?_
        exact g_iret ⟨_, rfl, rfl, (fun w n o ew en eo hv => by rw [show w = v1864 from ew.trans tv1864.symm, show n = v1869 from en.trans tv1869.symm, show o = v1874 from eo.trans tv1874.symm]; first | (exfalso; omega) | exact ⟨fun _ => by omega, fun _ => by omega, fun _ => by omega⟩)⟩
  · refine g_iconst (by decide) (fun v2218 kv2218 => ?_)
    refine g_goto ?_
    refine g_istore (l' := [(0, .ref 0), (1, .int a1), (2, .int v1864), (3, .int v1869), (4, .int v1874), (5, .int v2218)]) rfl rfl ?_
    refine g_iload_n rfl ?_
    refine g_if_ne (fun c2219 => ?_) (fun c2219 => ?_)
    · refine g_aload_n rfl ?_
      refine g_gfr hI sm_0 rfl ?_
      refine g_iload_n rfl ?_
      refine g_baload hI sm_7 rfl (by omega) (fun v2220 ev2220 lv2220 uv2220 => ?_)
      have yv2220 : v2220.toInt = (aZ H 7 v1869.toInt.toNat).toInt := by rw [ev2220]
      refine g_if_eq (fun c2221 => ?_) (fun c2221 => ?_)
      · refine g_iconst (by decide) (fun v2222 kv2222 => ?_)
        exact g_iret ⟨_, rfl, rfl, (fun w n o ew en eo hv => by rw [show w = v1864 from ew.trans tv1864.symm, show n = v1869 from en.trans tv1869.symm, show o = v1874 from eo.trans tv1874.symm]; first | (exfalso; omega) | exact ⟨fun _ => by omega, fun _ => by omega, fun _ => by omega⟩)⟩
      · refine g_iload rfl ?_
        refine g_if_eq (fun c2223 => ?_) (fun c2223 => ?_)
        · exfalso; omega
        · refine g_aload_n rfl ?_
          refine g_gfr hI sm_0 rfl ?_
          refine g_iload rfl ?_
          refine g_baload hI sm_7 rfl (by omega) (fun v2224 ev2224 lv2224 uv2224 => ?_)
          have yv2224 : v2224.toInt = (aZ H 7 v1874.toInt.toNat).toInt := by rw [ev2224]
          refine g_if_ne (fun c2225 => ?_) (fun c2225 => ?_)
          · refine g_aload_n rfl ?_
            refine g_gfr hI sm_0 rfl ?_
            refine g_iload_n rfl ?_
            refine g_baload hI sm_16 rfl (by omega) (fun v2226 ev2226 lv2226 uv2226 => ?_)
            refine g_if_ne (fun c2227 => ?_) (fun c2227 => ?_)
            · refine g_iconst (by decide) (fun v2228 kv2228 => ?_)
              exact g_iret ⟨_, rfl, rfl, (fun w n o ew en eo hv => by rw [show w = v1864 from ew.trans tv1864.symm, show n = v1869 from en.trans tv1869.symm, show o = v1874 from eo.trans tv1874.symm]; first | (exfalso; omega) | exact ⟨fun _ => by omega, fun _ => by omega, fun _ => by omega⟩)⟩
            · refine g_iload rfl ?_
              refine g_if_eq (fun c2229 => ?_) (fun c2229 => ?_)
              · exfalso; omega
              · refine g_aload_n rfl ?_
                refine g_gfr hI sm_0 rfl ?_
                refine g_iload rfl ?_
                refine g_baload hI sm_16 rfl (by omega) (fun v2230 ev2230 lv2230 uv2230 => ?_)
                refine g_if_eq (fun c2231 => ?_) (fun c2231 => ?_)
                · refine g_iload rfl ?_
                  refine g_if_eq (fun c2232 => ?_) (fun c2232 => ?_)
                  · exfalso; omega
                  · refine g_aload_n rfl ?_
                    refine g_gfr hI sm_0 rfl ?_
                    refine g_iload rfl ?_
                    refine g_iaload hI sm_8 rfl (by omega) (fun v2233 ev2233 lv2233 uv2233 => ?_)
                    have yv2233 : v2233.toInt = (aZ H 8 v1874.toInt.toNat).toInt := by rw [ev2233]
                    refine g_aload_n rfl ?_
                    refine g_gfr hI sm_0 rfl ?_
                    refine g_iload_n rfl ?_
                    refine g_iaload hI sm_8 rfl (by omega) (fun v2234 ev2234 lv2234 uv2234 => ?_)
                    have yv2234 : v2234.toInt = (aZ H 8 v1869.toInt.toNat).toInt := by rw [ev2234]
                    refine g_iconst (by decide) (fun v2235 kv2235 => ?_)
                    refine g_iadd (by omega) (fun v2236 ev2236 => ?_)
                    refine g_if2_eq (fun c2237 => ?_) (fun c2237 => ?_)
                    · refine g_iload rfl ?_
                      refine g_if_eq (fun c2238 => ?_) (fun c2238 => ?_)
                      · exfalso; omega
                      · refine g_aload_n rfl ?_
                        refine g_gfr hI sm_0 rfl ?_
                        refine g_iload_n rfl ?_
                        refine g_iaload hI sm_9 rfl (by omega) (fun v2239 ev2239 lv2239 uv2239 => ?_)
                        have qv2239 := JM_in hJ (by omega) ev2239
                        have yv2239 : v2239.toInt = (aZ H 9 v1869.toInt.toNat).toInt := by rw [ev2239]
                        refine g_bipush (by decide) (fun v2240 kv2240 => ?_)
                        refine g_if2_ne (fun c2241 => ?_) (fun c2241 => ?_)
                        · refine g_iconst (by decide) (fun v2242 kv2242 => ?_)
                          exact g_iret ⟨_, rfl, rfl, (fun w n o ew en eo hv => by rw [show w = v1864 from ew.trans tv1864.symm, show n = v1869 from en.trans tv1869.symm, show o = v1874 from eo.trans tv1874.symm]; first | (exfalso; omega) | exact ⟨fun _ => by omega, fun _ => by omega, fun _ => by omega⟩)⟩
                        · refine g_nop ?_
                          refine g_iload_n rfl ?_
                          refine g_iconst (by decide) (fun v2243 kv2243 => ?_)
                          refine g_if2_ne (fun c2244 => ?_) (fun c2244 => ?_)
                          · refine g_iload_n rfl ?_
                            refine g_iconst (by decide) (fun v2245 kv2245 => ?_)
                            refine g_if2_lt (fun c2246 => ?_) (fun c2246 => ?_)
                            · exfalso; omega
                            · refine g_iload_n rfl ?_
                              refine g_bipush (by decide) (fun v2247 kv2247 => ?_)
                              refine g_if2_gt (fun c2248 => ?_) (fun c2248 => ?_)
                              · exfalso; omega
                              · refine g_iconst (by decide) (fun v2249 kv2249 => ?_)
                                refine g_goto ?_
                                refine g_istore (l' := [(0, .ref 0), (1, .int a1), (2, .int v1864), (3, .int v1869), (4, .int v1874), (5, .int v2218), (6, .int v2249)]) rfl rfl ?_
                                refine g_iload rfl ?_
                                refine g_if_eq (fun c2250 => ?_) (fun c2250 => ?_)
                                · exfalso; omega
                                · refine g_aload_n rfl ?_
                                  refine g_gfr hI sm_0 rfl ?_
                                  refine g_aload_n rfl ?_
                                  refine g_iload_n rfl ?_
                                  refine g_invvi hI sm_0 rfl rfl rfl rfl (s_185 v1869 (by omega) H hI hJ) (fun v2253 H2251 r2252 => ?_)
                                  obtain ⟨rfl, bv2253⟩ := r2252
                                  refine g_baload hI sm_15 rfl (by omega) (fun v2254 ev2254 lv2254 uv2254 => ?_)
                                  refine g_if_ne (fun c2255 => ?_) (fun c2255 => ?_)
                                  · refine g_bipush (by decide) (fun v2256 kv2256 => ?_)
                                    exact g_iret ⟨_, rfl, rfl, (fun w n o ew en eo hv => by rw [show w = v1864 from ew.trans tv1864.symm, show n = v1869 from en.trans tv1869.symm, show o = v1874 from eo.trans tv1874.symm]; first | (exfalso; omega) | exact ⟨fun _ => by omega, fun _ => by omega, fun _ => by omega⟩)⟩
                                  · refine g_nop ?_
                                    refine g_iload rfl ?_
                                    refine g_if_eq (fun c2257 => ?_) (fun c2257 => ?_)
                                    · exfalso; omega
                                    · refine g_aload_n rfl ?_
                                      refine g_gfr hI sm_0 rfl ?_
                                      refine g_aload_n rfl ?_
                                      refine g_iload rfl ?_
                                      refine g_invvi hI sm_0 rfl rfl rfl rfl (s_185 v1874 (by omega) H hI hJ) (fun v2260 H2258 r2259 => ?_)
                                      obtain ⟨rfl, bv2260⟩ := r2259
                                      refine g_baload hI sm_15 rfl (by omega) (fun v2261 ev2261 lv2261 uv2261 => ?_)
                                      refine g_if_eq (fun c2262 => ?_) (fun c2262 => ?_)
                                      · refine g_iload_n rfl ?_
                                        refine g_bipush (by decide) (fun v2263 kv2263 => ?_)
                                        refine g_if2_ne (fun c2264 => ?_) (fun c2264 => ?_)
                                        · refine g_iload rfl ?_
                                          refine g_if_eq (fun c2265 => ?_) (fun c2265 => ?_)
                                          · exfalso; omega
                                          · refine g_aload_n rfl ?_
                                            refine g_gfr hI sm_0 rfl ?_
                                            refine g_iload_n rfl ?_
                                            refine g_iaload hI sm_10 rfl (by omega) (fun v2266 ev2266 lv2266 uv2266 => ?_)
                                            refine g_aload_n rfl ?_
                                            refine g_gfr hI sm_0 rfl ?_
                                            refine g_aload_n rfl ?_
                                            refine g_iload rfl ?_
                                            refine g_invvi hI sm_0 rfl rfl rfl rfl (s_185 v1874 (by omega) H hI hJ) (fun v2269 H2267 r2268 => ?_)
                                            obtain ⟨rfl, bv2269⟩ := r2268
                                            refine g_iaload hI sm_10 rfl (by omega) (fun v2270 ev2270 lv2270 uv2270 => ?_)
                                            refine g_if2_ne (fun c2271 => ?_) (fun c2271 => ?_)
                                            · refine g_bipush (by decide) (fun v2272 kv2272 => ?_)
                                              exact g_iret ⟨_, rfl, rfl, (fun w n o ew en eo hv => by rw [show w = v1864 from ew.trans tv1864.symm, show n = v1869 from en.trans tv1869.symm, show o = v1874 from eo.trans tv1874.symm]; first | (exfalso; omega) | exact ⟨fun _ => by omega, fun _ => by omega, fun _ => by omega⟩)⟩
                                            · refine g_aload_n rfl ?_
                                              refine g_iload rfl ?_
                                              refine g_invvi hI sm_0 rfl rfl rfl rfl (s_188 v1874 H hI (JM_n hJ)) (fun v2275 H2273 r2274 => ?_)
                                              obtain rfl := r2274
                                              refine g_aload_n rfl ?_
                                              refine g_gfr hI sm_0 rfl ?_
                                              refine g_iconst (by decide) (fun v2276 kv2276 => ?_)
                                              refine g_aload_n rfl ?_
                                              refine g_gfr hI sm_0 rfl ?_
                                              refine g_iload rfl ?_
                                              refine g_ialoadk hI sm_8 rfl (by omega) ev2233 ?_
                                              refine g_iadd (by omega) (fun v2277 ev2277 => ?_)
                                              refine g_iconst (by decide) (fun v2278 kv2278 => ?_)
                                              refine g_isub (by omega) (fun v2279 ev2279 => ?_)
                                              refine g_iaload hI sm_2 rfl (by omega) (fun v2280 ev2280 lv2280 uv2280 => ?_)
                                              refine g_if2_lt (fun c2281 => ?_) (fun c2281 => ?_)
                                              · refine g_iload_n rfl ?_
                                                refine g_iconst (by decide) (fun v2282 kv2282 => ?_)
                                                refine g_if2_ne (fun c2283 => ?_) (fun c2283 => ?_)
                                                · refine g_iload_n rfl ?_
                                                  refine g_iconst (by decide) (fun v2284 kv2284 => ?_)
                                                  refine g_if2_ne (fun c2285 => ?_) (fun c2285 => ?_)
                                                  · refine g_aload_n rfl ?_
                                                    refine g_iload_n rfl ?_
                                                    refine g_iconst (by decide) (fun v2286 kv2286 => ?_)
                                                    refine g_bipush (by decide) (fun v2287 kv2287 => ?_)
                                                    refine g_bipush (by decide) (fun v2288 kv2288 => ?_)
                                                    refine g_invvi hI sm_0 rfl rfl rfl rfl (s_190 v1864 v2286 v2287 v2288 H hI (JM_n hJ)) (fun v2291 H2289 r2290 => ?_)
                                                    obtain ⟨rfl, bv2291⟩ := r2290
                                                    refine g_if_eq (fun c2292 => ?_) (fun c2292 => ?_)
                                                    · refine g_iload_n rfl ?_
                                                      refine g_iconst (by decide) (fun v2293 kv2293 => ?_)
                                                      refine g_if2_eq (fun c2294 => ?_) (fun c2294 => ?_)
                                                      · exfalso; omega
                                                      · refine g_iload_n rfl ?_
                                                        refine g_bipush (by decide) (fun v2295 kv2295 => ?_)
                                                        refine g_if2_ne (fun c2296 => ?_) (fun c2296 => ?_)
                                                        · refine g_iload rfl ?_
                                                          refine g_if_ne (fun c2297 => ?_) (fun c2297 => ?_)
                                                          · refine g_aload_n rfl ?_
                                                            refine g_iload_n rfl ?_
                                                            refine g_invvi hI sm_0 rfl rfl rfl rfl (s_187 v1869 H hI hJ) (fun v2300 H2298 r2299 => ?_)
                                                            obtain ⟨rfl, bv2300⟩ := r2299
                                                            refine g_if_eq (fun c2301 => ?_) (fun c2301 => ?_)
                                                            · refine g_iload_n rfl ?_
                                                              refine g_bipush (by decide) (fun v2302 kv2302 => ?_)
                                                              refine g_if2_ne (fun c2303 => ?_) (fun c2303 => ?_)
                                                              · refine g_iconst (by decide) (fun v2304 kv2304 => ?_)
                                                                refine g_nop ?_
                                                                exact g_iret ⟨_, rfl, rfl, (fun w n o ew en eo hv => by rw [show w = v1864 from ew.trans tv1864.symm, show n = v1869 from en.trans tv1869.symm, show o = v1874 from eo.trans tv1874.symm]; first | (exfalso; omega) | exact ⟨fun _ => by omega, fun _ => by omega, fun _ => by omega⟩)⟩
                                                              · exfalso; omega
                                                            · refine g_bipush (by decide) (fun v2305 kv2305 => ?_)
                                                              exact g_iret ⟨_, rfl, rfl, (fun w n o ew en eo hv => by rw [show w = v1864 from ew.trans tv1864.symm, show n = v1869 from en.trans tv1869.symm, show o = v1874 from eo.trans tv1874.symm]; first | (exfalso; omega) | exact ⟨fun _ => by omega, fun _ => by omega, fun _ => by omega⟩)⟩
                                                          · exfalso; omega
                                                        · exfalso; omega
                                                    · refine g_aload_n rfl ?_
                                                      refine g_gfr hI sm_0 rfl ?_
                                                      refine g_iload_n rfl ?_
                                                      refine g_ialoadk hI sm_9 rfl (by omega) ev2239 ?_
                                                      refine g_bipush (by decide) (fun v2306 kv2306 => ?_)
                                                      refine g_if2_eq (fun c2307 => ?_) (fun c2307 => ?_)
                                                      · refine g_iload_n rfl ?_
                                                        refine g_iconst (by decide) (fun v2308 kv2308 => ?_)
                                                        refine g_if2_eq (fun c2309 => ?_) (fun c2309 => ?_)
                                                        · exfalso; omega
                                                        · refine g_iload_n rfl ?_
                                                          refine g_bipush (by decide) (fun v2310 kv2310 => ?_)
                                                          refine g_if2_ne (fun c2311 => ?_) (fun c2311 => ?_)
                                                          · refine g_iload rfl ?_
                                                            refine g_if_ne (fun c2312 => ?_) (fun c2312 => ?_)
                                                            · refine g_aload_n rfl ?_
                                                              refine g_iload_n rfl ?_
                                                              refine g_invvi hI sm_0 rfl rfl rfl rfl (s_187 v1869 H hI hJ) (fun v2315 H2313 r2314 => ?_)
                                                              obtain ⟨rfl, bv2315⟩ := r2314
                                                              refine g_if_eq (fun c2316 => ?_) (fun c2316 => ?_)
                                                              · refine g_iload_n rfl ?_
                                                                refine g_bipush (by decide) (fun v2317 kv2317 => ?_)
                                                                refine g_if2_ne (fun c2318 => ?_) (fun c2318 => ?_)
                                                                · refine g_iconst (by decide) (fun v2319 kv2319 => ?_)
                                                                  refine g_nop ?_
                                                                  exact g_iret ⟨_, rfl, rfl, (fun w n o ew en eo hv => by rw [show w = v1864 from ew.trans tv1864.symm, show n = v1869 from en.trans tv1869.symm, show o = v1874 from eo.trans tv1874.symm]; first | (exfalso; omega) | exact ⟨fun _ => by omega, fun _ => by omega, fun _ => by omega⟩)⟩
                                                                · exfalso; omega
                                                              · refine g_bipush (by decide) (fun v2320 kv2320 => ?_)
                                                                exact g_iret ⟨_, rfl, rfl, (fun w n o ew en eo hv => by rw [show w = v1864 from ew.trans tv1864.symm, show n = v1869 from en.trans tv1869.symm, show o = v1874 from eo.trans tv1874.symm]; first | (exfalso; omega) | exact ⟨fun _ => by omega, fun _ => by omega, fun _ => by omega⟩)⟩
                                                            · exfalso; omega
                                                          · exfalso; omega
                                                      · exfalso; omega
                                                  · exfalso; omega
                                                · exfalso; omega
                                              · refine g_nop ?_
                                                refine g_bipush (by decide) (fun v2321 kv2321 => ?_)
                                                exact g_iret ⟨_, rfl, rfl, (fun w n o ew en eo hv => by rw [show w = v1864 from ew.trans tv1864.symm, show n = v1869 from en.trans tv1869.symm, show o = v1874 from eo.trans tv1874.symm]; first | (exfalso; omega) | exact ⟨fun _ => by omega, fun _ => by omega, fun _ => by omega⟩)⟩
                                        · exfalso; omega
                                      · refine g_nop ?_
                                        refine g_bipush (by decide) (fun v2322 kv2322 => ?_)
                                        exact g_iret ⟨_, rfl, rfl, (fun w n o ew en eo hv => by rw [show w = v1864 from ew.trans tv1864.symm, show n = v1869 from en.trans tv1869.symm, show o = v1874 from eo.trans tv1874.symm]; first | (exfalso; omega) | exact ⟨fun _ => by omega, fun _ => by omega, fun _ => by omega⟩)⟩
                          · exfalso; omega
                    · refine g_iconst (by decide) (fun v2323 kv2323 => ?_)
                      exact g_iret ⟨_, rfl, rfl, (fun w n o ew en eo hv => by rw [show w = v1864 from ew.trans tv1864.symm, show n = v1869 from en.trans tv1869.symm, show o = v1874 from eo.trans tv1874.symm]; first | (exfalso; omega) | exact ⟨fun _ => by omega, fun _ => by omega, fun _ => by omega⟩)⟩
                · refine g_nop ?_
                  refine g_iconst (by decide) (fun v2324 kv2324 => ?_)
                  exact g_iret ⟨_, rfl, rfl, (fun w n o ew en eo hv => by rw [show w = v1864 from ew.trans tv1864.symm, show n = v1869 from en.trans tv1869.symm, show o = v1874 from eo.trans tv1874.symm]; first | (exfalso; omega) | exact ⟨fun _ => by omega, fun _ => by omega, fun _ => by omega⟩)⟩
          · refine g_nop ?_
            refine g_iconst (by decide) (fun v2325 kv2325 => ?_)
            exact g_iret ⟨_, rfl, rfl, (fun w n o ew en eo hv => by rw [show w = v1864 from ew.trans tv1864.symm, show n = v1869 from en.trans tv1869.symm, show o = v1874 from eo.trans tv1874.symm]; first | (exfalso; omega) | exact ⟨fun _ => by omega, fun _ => by omega, fun _ => by omega⟩)⟩
    · exfalso; omega
set_option maxRecDepth 4000 in
set_option maxHeartbeats 4000000 in
/-- M.lies -/
theorem s_193 (a1 : Int32) (ha1 : 0 ≤ a1.toInt ∧ a1.toInt ≤ 39) (a2 : Int32) (ha2 : 0 ≤ a2.toInt ∧ a2.toInt ≤ 7) (a3 : Int32) (H : mzH) (hI : gI SM H) (hJ : JM H) : gCall 193 [.ref 0, .int a1, .int a2, .int a3] H (gRv (fun H' => gI SM H' ∧ JM H' ∧ (∀ a f, fZ H' a f = fZ H a f) ∧ (∀ i, aZ H' 2 i = aZ H 2 i) ∧ (∀ i, aZ H' 19 i = aZ H 19 i) ∧ (∀ i, aZ H' 17 i = aZ H 17 i))) := by
  have mkF : ∀ a f, fZ H a f = fZ H a f := fun _ _ => rfl
  have mk2 : ∀ i, aZ H 2 i = aZ H 2 i := fun _ => rfl
  have mk19 : ∀ i, aZ H 19 i = aZ H 19 i := fun _ => rfl
  have mk17 : ∀ i, aZ H 17 i = aZ H 17 i := fun _ => rfl
  refine gG_call [(0, .ref 0), (1, .int a1), (2, .int a2), (3, .int a3)] ⟨rfl, rfl, rfl, rfl, trivial⟩ ?_
  show gG 4 zB_193 (mzBlk zB_193 0) [(0, .ref 0), (1, .int a1), (2, .int a2), (3, .int a3)] [] H 0 0 _
  refine g_aload_n rfl ?_
  refine g_gfr hI sm_0 rfl ?_
  refine g_iload_n rfl ?_
  refine g_iload_n rfl ?_
  refine g_iastore hI sm_10 (by omega) (by omega) (fun H41 eH41 hIH41 => ?_)
  have hJH41 : JM H41 := JM_sA (by decide) eH41 hJ
  have m42 : ∀ a f, fZ H41 a f = fZ H a f := fun a f => (by rw [eH41, fZ_sA] : fZ H41 a f = fZ H a f).trans (mkF a f)
  have m43 : ∀ i, aZ H41 2 i = aZ H 2 i := fun i => (by rw [eH41, aZ_sA_nc (by omega)] : aZ H41 2 i = aZ H 2 i).trans (mk2 i)
  have m44 : ∀ i, aZ H41 19 i = aZ H 19 i := fun i => (by rw [eH41, aZ_sA_nc (by omega)] : aZ H41 19 i = aZ H 19 i).trans (mk19 i)
  have m45 : ∀ i, aZ H41 17 i = aZ H 17 i := fun i => (by rw [eH41, aZ_sA_nc (by omega)] : aZ H41 17 i = aZ H 17 i).trans (mk17 i)
  refine g_aload_n rfl ?_
  refine g_gfr hIH41 sm_0 rfl ?_
  refine g_iload_n rfl ?_
  refine g_iload_n rfl ?_
  refine g_iastore hIH41 sm_11 (by omega) (gz_any _) (fun H46 eH46 hIH46 => ?_)
  have hJH46 : JM H46 := JM_sA (by decide) eH46 hJH41
  have m47 : ∀ a f, fZ H46 a f = fZ H a f := fun a f => (by rw [eH46, fZ_sA] : fZ H46 a f = fZ H41 a f).trans (m42 a f)
  have m48 : ∀ i, aZ H46 2 i = aZ H 2 i := fun i => (by rw [eH46, aZ_sA_nc (by omega)] : aZ H46 2 i = aZ H41 2 i).trans (m43 i)
  have m49 : ∀ i, aZ H46 19 i = aZ H 19 i := fun i => (by rw [eH46, aZ_sA_nc (by omega)] : aZ H46 19 i = aZ H41 19 i).trans (m44 i)
  have m50 : ∀ i, aZ H46 17 i = aZ H 17 i := fun i => (by rw [eH46, aZ_sA_nc (by omega)] : aZ H46 17 i = aZ H41 17 i).trans (m45 i)
  exact g_ret ⟨rfl, hIH46, hJH46, m47, m48, m49, m50⟩
set_option maxRecDepth 4000 in
set_option maxHeartbeats 4000000 in
/-- M.comesOut -/
theorem s_195 (a1 : Int32) (ha1 : 0 ≤ a1.toInt ∧ a1.toInt ≤ 39) (a2 : Int32) (ha2 : 0 ≤ a2.toInt ∧ a2.toInt ≤ 7) (a3 : Int32) (H : mzH) (hI : gI SM H) (hJ : JM H) (hp0 : ¬ (aZ H 9 a1.toInt.toNat).toInt = -5) : gCall 195 [.ref 0, .int a1, .int a2, .int a3] H (gRv (fun H' => gI SM H' ∧ JM H' ∧ (∀ a f, fZ H' a f = fZ H a f) ∧ (∀ i, aZ H' 2 i = aZ H 2 i) ∧ (∀ i, aZ H' 19 i = aZ H 19 i) ∧ (∀ i, aZ H' 17 i = aZ H 17 i))) := by
  have mkF : ∀ a f, fZ H a f = fZ H a f := fun _ _ => rfl
  have mk2 : ∀ i, aZ H 2 i = aZ H 2 i := fun _ => rfl
  have mk19 : ∀ i, aZ H 19 i = aZ H 19 i := fun _ => rfl
  have mk17 : ∀ i, aZ H 17 i = aZ H 17 i := fun _ => rfl
  refine gG_call [(0, .ref 0), (1, .int a1), (2, .int a2), (3, .int a3)] ⟨rfl, rfl, rfl, rfl, trivial⟩ ?_
  show gG 4 zB_195 (mzBlk zB_195 0) [(0, .ref 0), (1, .int a1), (2, .int a2), (3, .int a3)] [] H 0 0 _
  refine g_aload_n rfl ?_
  refine g_gfr hI sm_0 rfl ?_
  refine g_aload_n rfl ?_
  refine g_gfr hI sm_0 rfl ?_
  refine g_iload_n rfl ?_
  refine g_iaload hI sm_9 rfl (by omega) (fun v93 ev93 lv93 uv93 => ?_)
  have qv93 := JM_in hJ (by omega) ev93
  have yv93 : v93.toInt = (aZ H 9 a1.toInt.toNat).toInt := by rw [ev93]
  refine g_iconst (by decide) (fun v94 kv94 => ?_)
  refine g_zastore hI sm_13 (by omega) (by omega) (fun H95 eH95 hIH95 => ?_)
  have hJH95 : JM H95 := JM_sA (by decide) eH95 hJ
  have m96 : ∀ a f, fZ H95 a f = fZ H a f := fun a f => (by rw [eH95, fZ_sA] : fZ H95 a f = fZ H a f).trans (mkF a f)
  have m97 : ∀ i, aZ H95 2 i = aZ H 2 i := fun i => (by rw [eH95, aZ_sA_nc (by omega)] : aZ H95 2 i = aZ H 2 i).trans (mk2 i)
  have m98 : ∀ i, aZ H95 19 i = aZ H 19 i := fun i => (by rw [eH95, aZ_sA_nc (by omega)] : aZ H95 19 i = aZ H 19 i).trans (mk19 i)
  have m99 : ∀ i, aZ H95 17 i = aZ H 17 i := fun i => (by rw [eH95, aZ_sA_nc (by omega)] : aZ H95 17 i = aZ H 17 i).trans (mk17 i)
  refine g_aload_n rfl ?_
  refine g_gfr hIH95 sm_0 rfl ?_
  refine g_iload_n rfl ?_
  refine g_bipush (by decide) (fun v100 kv100 => ?_)
  refine g_iastore hIH95 sm_9 (by omega) (by omega) (fun H101 eH101 hIH101 => ?_)
  have hJH101 : JM H101 := JM_out hIH95 hJH95 (by omega) (by omega) eH101
  have m102 : ∀ a f, fZ H101 a f = fZ H a f := fun a f => (by rw [eH101, fZ_sA] : fZ H101 a f = fZ H95 a f).trans (m96 a f)
  have m103 : ∀ i, aZ H101 2 i = aZ H 2 i := fun i => (by rw [eH101, aZ_sA_nc (by omega)] : aZ H101 2 i = aZ H95 2 i).trans (m97 i)
  have m104 : ∀ i, aZ H101 19 i = aZ H 19 i := fun i => (by rw [eH101, aZ_sA_nc (by omega)] : aZ H101 19 i = aZ H95 19 i).trans (m98 i)
  have m105 : ∀ i, aZ H101 17 i = aZ H 17 i := fun i => (by rw [eH101, aZ_sA_nc (by omega)] : aZ H101 17 i = aZ H95 17 i).trans (m99 i)
  refine g_aload_n rfl ?_
  refine g_iload_n rfl ?_
  refine g_iload_n rfl ?_
  refine g_iload_n rfl ?_
  refine g_invvv hIH101 sm_0 rfl rfl rfl rfl (s_193 a1 (by omega) a2 (by omega) a3 H101 hIH101 hJH101) (fun H106 r107 => ?_)
  obtain ⟨hIH106, hJH106, m108, m109, m110, m111⟩ := r107
  have m112 : ∀ a f, fZ H106 a f = fZ H a f := fun a f => (m108 a f).trans (m102 a f)
  have m113 : ∀ i, aZ H106 2 i = aZ H 2 i := fun i => (m109 i).trans (m103 i)
  have m114 : ∀ i, aZ H106 19 i = aZ H 19 i := fun i => (m110 i).trans (m104 i)
  have m115 : ∀ i, aZ H106 17 i = aZ H 17 i := fun i => (m111 i).trans (m105 i)
  exact g_ret ⟨rfl, hIH106, hJH106, m112, m113, m114, m115⟩
set_option maxRecDepth 4000 in
set_option maxHeartbeats 4000000 in
/-- M.scans -/
theorem s_196 (a1 : Int32) (ha1 : 0 ≤ a1.toInt ∧ a1.toInt ≤ 39) (a2 : Int32) (ha2 : 0 ≤ a2.toInt ∧ a2.toInt ≤ 7) (a3 : Int32) (H : mzH) (hI : gI SM H) (hJ : JM H) : gCall 196 [.ref 0, .int a1, .int a2, .int a3] H (gRv (fun H' => gI SM H' ∧ JM H' ∧ (∀ a f, fZ H' a f = fZ H a f) ∧ (∀ i, aZ H' 2 i = aZ H 2 i) ∧ (∀ i, aZ H' 19 i = aZ H 19 i) ∧ (∀ i, aZ H' 17 i = aZ H 17 i))) := by
  have mkF : ∀ a f, fZ H a f = fZ H a f := fun _ _ => rfl
  have mk2 : ∀ i, aZ H 2 i = aZ H 2 i := fun _ => rfl
  have mk19 : ∀ i, aZ H 19 i = aZ H 19 i := fun _ => rfl
  have mk17 : ∀ i, aZ H 17 i = aZ H 17 i := fun _ => rfl
  refine gG_call [(0, .ref 0), (1, .int a1), (2, .int a2), (3, .int a3)] ⟨rfl, rfl, rfl, rfl, trivial⟩ ?_
  show gG 6 zB_196 (mzBlk zB_196 0) [(0, .ref 0), (1, .int a1), (2, .int a2), (3, .int a3)] [] H 0 0 _
  refine g_aload_n rfl ?_
  refine g_gfr hI sm_0 rfl ?_
  refine g_iload_n rfl ?_
  refine g_iload_n rfl ?_
  refine g_iastore hI sm_12 (by omega) (gz_any _) (fun H197 eH197 hIH197 => ?_)
  have hJH197 : JM H197 := JM_sA (by decide) eH197 hJ
  have m198 : ∀ a f, fZ H197 a f = fZ H a f := fun a f => (by rw [eH197, fZ_sA] : fZ H197 a f = fZ H a f).trans (mkF a f)
  have m199 : ∀ i, aZ H197 2 i = aZ H 2 i := fun i => (by rw [eH197, aZ_sA_nc (by omega)] : aZ H197 2 i = aZ H 2 i).trans (mk2 i)
  have m200 : ∀ i, aZ H197 19 i = aZ H 19 i := fun i => (by rw [eH197, aZ_sA_nc (by omega)] : aZ H197 19 i = aZ H 19 i).trans (mk19 i)
  have m201 : ∀ i, aZ H197 17 i = aZ H 17 i := fun i => (by rw [eH197, aZ_sA_nc (by omega)] : aZ H197 17 i = aZ H 17 i).trans (mk17 i)
  refine g_aload_n rfl ?_
  refine g_iload_n rfl ?_
  refine g_invvi hIH197 sm_0 rfl rfl rfl rfl (s_185 a1 (by omega) H197 hIH197 hJH197) (fun v204 H202 r203 => ?_)
  obtain ⟨rfl, bv204⟩ := r203
  refine g_istore (l' := [(0, .ref 0), (1, .int a1), (2, .int a2), (3, .int a3), (4, .int v204)]) rfl rfl ?_
  refine g_aload_n rfl ?_
  refine g_gfr hIH197 sm_0 rfl ?_
  refine g_iload rfl ?_
  refine g_iaload hIH197 sm_10 rfl (by omega) (fun v205 ev205 lv205 uv205 => ?_)
  refine g_iload_n rfl ?_
  refine g_if2_ne (fun c206 => ?_) (fun c206 => ?_)
  · refine g_iload_n rfl ?_
    refine g_istore (l' := [(0, .ref 0), (1, .int a1), (2, .int a2), (3, .int a3), (4, .int v204), (5, .int a1)]) rfl rfl ?_
    refine g_nop ?_
    have L208 : ∀ (N : Nat) (v207 : Int32), (0 ≤ v207.toInt ∧ v207.toInt ≤ 39) → mK H197 v207 < N → gG 6 zB_196 (mzBlk zB_196 2) [(0, .ref 0), (1, .int a1), (2, .int a2), (3, .int a3), (4, .int v204), (5, .int v207)] [] H197 0 0 (gRv (fun H' => gI SM H' ∧ JM H' ∧ (∀ a f, fZ H' a f = fZ H a f) ∧ (∀ i, aZ H' 2 i = aZ H 2 i) ∧ (∀ i, aZ H' 19 i = aZ H 19 i) ∧ (∀ i, aZ H' 17 i = aZ H 17 i))) := by
      intro N
      induction N with
      | zero => intro v207 bv207 hmL208; exact absurd hmL208 (Nat.not_lt_zero _)
      | succ N ihL208 =>
        intro v207 bv207 hmL208
        refine g_aload_n rfl ?_
        refine g_gfr hIH197 sm_0 rfl ?_
        refine g_iload rfl ?_
        refine g_iaload hIH197 sm_9 rfl (by omega) (fun v209 ev209 lv209 uv209 => ?_)
        have qv209 := JM_in hJH197 (by omega) ev209
        have yv209 : v209.toInt = (aZ H197 9 v207.toInt.toNat).toInt := by rw [ev209]
        refine g_bipush (by decide) (fun v210 kv210 => ?_)
        refine g_if2_eq (fun c211 => ?_) (fun c211 => ?_)
        · refine g_aload_n rfl ?_
          refine g_gfr hIH197 sm_0 rfl ?_
          refine g_iload rfl ?_
          refine g_ialoadk hIH197 sm_9 rfl (by omega) ev209 ?_
          refine g_bipush (by decide) (fun v212 kv212 => ?_)
          refine g_if2_eq (fun c213 => ?_) (fun c213 => ?_)
          · refine g_aload_n rfl ?_
            refine g_iload rfl ?_
            refine g_iload_n rfl ?_
            refine g_iload_n rfl ?_
            refine g_invvv hIH197 sm_0 rfl rfl rfl rfl (s_193 v204 (by omega) a2 (by omega) a3 H197 hIH197 hJH197) (fun H214 r215 => ?_)
            obtain ⟨hIH214, hJH214, m216, m217, m218, m219⟩ := r215
            have m220 : ∀ a f, fZ H214 a f = fZ H a f := fun a f => (m216 a f).trans (m198 a f)
            have m221 : ∀ i, aZ H214 2 i = aZ H 2 i := fun i => (m217 i).trans (m199 i)
            have m222 : ∀ i, aZ H214 19 i = aZ H 19 i := fun i => (m218 i).trans (m200 i)
            have m223 : ∀ i, aZ H214 17 i = aZ H 17 i := fun i => (m219 i).trans (m201 i)
            refine g_nop ?_
            exact g_ret ⟨rfl, hIH214, hJH214, m220, m221, m222, m223⟩
          · exfalso; omega
        · refine g_aload_n rfl ?_
          refine g_gfr hIH197 sm_0 rfl ?_
          refine g_aload_n rfl ?_
          refine g_gfr hIH197 sm_0 rfl ?_
          refine g_iload rfl ?_
          refine g_ialoadk hIH197 sm_9 rfl (by omega) ev209 ?_
          refine g_baload hIH197 sm_13 rfl (by omega) (fun v224 ev224 lv224 uv224 => ?_)
          refine g_if_ne (fun c225 => ?_) (fun c225 => ?_)
          · refine g_aload_n rfl ?_
            refine g_gfr hIH197 sm_0 rfl ?_
            refine g_iload rfl ?_
            refine g_ialoadk hIH197 sm_9 rfl (by omega) ev209 ?_
            refine g_bipush (by decide) (fun v226 kv226 => ?_)
            refine g_if2_eq (fun c227 => ?_) (fun c227 => ?_)
            · exfalso; omega
            · refine g_aload_n rfl ?_
              refine g_iload rfl ?_
              refine g_iload_n rfl ?_
              refine g_iload_n rfl ?_
              refine g_invvv hIH197 sm_0 rfl rfl rfl rfl (s_195 v207 (by omega) a2 (by omega) a3 H197 hIH197 hJH197 (by omega)) (fun H228 r229 => ?_)
              obtain ⟨hIH228, hJH228, m230, m231, m232, m233⟩ := r229
              have m234 : ∀ a f, fZ H228 a f = fZ H a f := fun a f => (m230 a f).trans (m198 a f)
              have m235 : ∀ i, aZ H228 2 i = aZ H 2 i := fun i => (m231 i).trans (m199 i)
              have m236 : ∀ i, aZ H228 19 i = aZ H 19 i := fun i => (m232 i).trans (m200 i)
              have m237 : ∀ i, aZ H228 17 i = aZ H 17 i := fun i => (m233 i).trans (m201 i)
              refine g_goto ?_
              exact g_ret ⟨rfl, hIH228, hJH228, m234, m235, m236, m237⟩
          · refine g_aload_n rfl ?_
            refine g_gfr hIH197 sm_0 rfl ?_
            refine g_iload rfl ?_
            refine g_ialoadk hIH197 sm_9 rfl (by omega) ev209 ?_
            refine g_istore (l' := [(0, .ref 0), (1, .int a1), (2, .int a2), (3, .int a3), (4, .int v204), (5, .int v209)]) rfl rfl ?_
            refine g_goto ?_
            exact ihL208 v209 (by omega) (mK_up hIH197 hJH197 (by omega) ev209 hmL208)
    exact L208 _ a1 (by omega) (Nat.lt_succ_self _)
  · refine g_aload_n rfl ?_
    refine g_gfr hIH197 sm_0 rfl ?_
    refine g_iload rfl ?_
    refine g_iload_n rfl ?_
    refine g_iastore hIH197 sm_11 (by omega) (gz_any _) (fun H238 eH238 hIH238 => ?_)
    have hJH238 : JM H238 := JM_sA (by decide) eH238 hJH197
    have m239 : ∀ a f, fZ H238 a f = fZ H a f := fun a f => (by rw [eH238, fZ_sA] : fZ H238 a f = fZ H197 a f).trans (m198 a f)
    have m240 : ∀ i, aZ H238 2 i = aZ H 2 i := fun i => (by rw [eH238, aZ_sA_nc (by omega)] : aZ H238 2 i = aZ H197 2 i).trans (m199 i)
    have m241 : ∀ i, aZ H238 19 i = aZ H 19 i := fun i => (by rw [eH238, aZ_sA_nc (by omega)] : aZ H238 19 i = aZ H197 19 i).trans (m200 i)
    have m242 : ∀ i, aZ H238 17 i = aZ H 17 i := fun i => (by rw [eH238, aZ_sA_nc (by omega)] : aZ H238 17 i = aZ H197 17 i).trans (m201 i)
    exact g_ret ⟨rfl, hIH238, hJH238, m239, m240, m241, m242⟩
set_option maxRecDepth 4000 in
set_option maxHeartbeats 4000000 in
/-- M.ends -/
theorem s_197 (a1 : Int32) (ha1 : 0 ≤ a1.toInt ∧ a1.toInt ≤ 39) (H : mzH) (hI : gI SM H) (hJ : JM H) : gCall 197 [.ref 0, .int a1] H (gRv (fun H' => gI SM H' ∧ JM H' ∧ (∀ a f, fZ H' a f = fZ H a f) ∧ (∀ i, aZ H' 2 i = aZ H 2 i) ∧ (∀ i, aZ H' 19 i = aZ H 19 i) ∧ (∀ i, aZ H' 17 i = aZ H 17 i))) := by
  have mkF : ∀ a f, fZ H a f = fZ H a f := fun _ _ => rfl
  have mk2 : ∀ i, aZ H 2 i = aZ H 2 i := fun _ => rfl
  have mk19 : ∀ i, aZ H 19 i = aZ H 19 i := fun _ => rfl
  have mk17 : ∀ i, aZ H 17 i = aZ H 17 i := fun _ => rfl
  refine gG_call [(0, .ref 0), (1, .int a1)] ⟨rfl, rfl, trivial⟩ ?_
  show gG 3 zB_197 (mzBlk zB_197 0) [(0, .ref 0), (1, .int a1)] [] H 0 0 _
  refine g_iconst (by decide) (fun v865 kv865 => ?_)
  refine g_istore_n (l' := [(0, .ref 0), (1, .int a1), (2, .int v865)]) rfl rfl ?_
  refine g_nop ?_
  have L872 : ∀ (N : Nat) (v866 : Int32) (H867 : mzH), gI SM H867 → JM H867 → (∀ a f, fZ H867 a f = fZ H a f) → (∀ i, aZ H867 2 i = aZ H 2 i) → (∀ i, aZ H867 19 i = aZ H 19 i) → (∀ i, aZ H867 17 i = aZ H 17 i) → (0 ≤ v866.toInt ∧ v866.toInt ≤ 40) → (40 - v866.toInt).toNat < N → gG 3 zB_197 (mzBlk zB_197 1) [(0, .ref 0), (1, .int a1), (2, .int v866)] [] H867 0 0 (gRv (fun H' => gI SM H' ∧ JM H' ∧ (∀ a f, fZ H' a f = fZ H a f) ∧ (∀ i, aZ H' 2 i = aZ H 2 i) ∧ (∀ i, aZ H' 19 i = aZ H 19 i) ∧ (∀ i, aZ H' 17 i = aZ H 17 i))) := by
    intro N
    induction N with
    | zero => intro v866 H867 hIH867 hJH867 m868 m869 m870 m871 bv866 hmL872; exact absurd hmL872 (Nat.not_lt_zero _)
    | succ N ihL872 =>
      intro v866 H867 hIH867 hJH867 m868 m869 m870 m871 bv866 hmL872
      refine g_iload_n rfl ?_
      refine g_bipush (by decide) (fun v873 kv873 => ?_)
      refine g_if2_ge (fun c874 => ?_) (fun c874 => ?_)
      · refine g_aload_n rfl ?_
        refine g_gfr hIH867 sm_0 rfl ?_
        refine g_iload_n rfl ?_
        refine g_iaload hIH867 sm_9 rfl (by omega) (fun v875 ev875 lv875 uv875 => ?_)
        have qv875 := JM_in hJH867 (by omega) ev875
        have yv875 : v875.toInt = (aZ H867 9 a1.toInt.toNat).toInt := by rw [ev875]
        refine g_bipush (by decide) (fun v876 kv876 => ?_)
        refine g_if2_eq (fun c877 => ?_) (fun c877 => ?_)
        · refine g_iconst (by decide) (fun v878 kv878 => ?_)
          refine g_istore_n (l' := [(0, .ref 0), (1, .int a1), (2, .int v878)]) rfl rfl ?_
          refine g_nop ?_
          have L885 : ∀ (N : Nat) (v879 : Int32) (H880 : mzH), gI SM H880 → JM H880 → (∀ a f, fZ H880 a f = fZ H a f) → (∀ i, aZ H880 2 i = aZ H 2 i) → (∀ i, aZ H880 19 i = aZ H 19 i) → (∀ i, aZ H880 17 i = aZ H 17 i) → (0 ≤ v879.toInt ∧ v879.toInt ≤ 40) → (40 - v879.toInt).toNat < N → gG 3 zB_197 (mzBlk zB_197 7) [(0, .ref 0), (1, .int a1), (2, .int v879)] [] H880 0 0 (gRv (fun H' => gI SM H' ∧ JM H' ∧ (∀ a f, fZ H' a f = fZ H a f) ∧ (∀ i, aZ H' 2 i = aZ H 2 i) ∧ (∀ i, aZ H' 19 i = aZ H 19 i) ∧ (∀ i, aZ H' 17 i = aZ H 17 i))) := by
            intro N
            induction N with
            | zero => intro v879 H880 hIH880 hJH880 m881 m882 m883 m884 bv879 hmL885; exact absurd hmL885 (Nat.not_lt_zero _)
            | succ N ihL885 =>
              intro v879 H880 hIH880 hJH880 m881 m882 m883 m884 bv879 hmL885
              refine g_iload_n rfl ?_
              refine g_bipush (by decide) (fun v886 kv886 => ?_)
              refine g_if2_ge (fun c887 => ?_) (fun c887 => ?_)
              · exact g_ret ⟨rfl, hIH880, hJH880, m881, m882, m883, m884⟩
              · refine g_aload_n rfl ?_
                refine g_gfr hIH880 sm_0 rfl ?_
                refine g_iload_n rfl ?_
                refine g_baload hIH880 sm_21 rfl (by omega) (fun v888 ev888 lv888 uv888 => ?_)
                refine g_if_ne (fun c889 => ?_) (fun c889 => ?_)
                · refine g_aload_n rfl ?_
                  refine g_gfr hIH880 sm_0 rfl ?_
                  refine g_iload_n rfl ?_
                  refine g_iconst (by decide) (fun v890 kv890 => ?_)
                  refine g_zastore hIH880 sm_16 (by omega) (by omega) (fun H891 eH891 hIH891 => ?_)
                  have hJH891 : JM H891 := JM_sA (by decide) eH891 hJH880
                  have m892 : ∀ a f, fZ H891 a f = fZ H a f := fun a f => (by rw [eH891, fZ_sA] : fZ H891 a f = fZ H880 a f).trans (m881 a f)
                  have m893 : ∀ i, aZ H891 2 i = aZ H 2 i := fun i => (by rw [eH891, aZ_sA_nc (by omega)] : aZ H891 2 i = aZ H880 2 i).trans (m882 i)
                  have m894 : ∀ i, aZ H891 19 i = aZ H 19 i := fun i => (by rw [eH891, aZ_sA_nc (by omega)] : aZ H891 19 i = aZ H880 19 i).trans (m883 i)
                  have m895 : ∀ i, aZ H891 17 i = aZ H 17 i := fun i => (by rw [eH891, aZ_sA_nc (by omega)] : aZ H891 17 i = aZ H880 17 i).trans (m884 i)
                  refine g_aload_n rfl ?_
                  refine g_gfr hIH891 sm_0 rfl ?_
                  refine g_iload_n rfl ?_
                  refine g_bipush (by decide) (fun v896 kv896 => ?_)
                  refine g_iastore hIH891 sm_9 (by omega) (by omega) (fun H897 eH897 hIH897 => ?_)
                  have hJH897 : JM H897 := JM_out hIH891 hJH891 (by omega) (by omega) eH897
                  have m898 : ∀ a f, fZ H897 a f = fZ H a f := fun a f => (by rw [eH897, fZ_sA] : fZ H897 a f = fZ H891 a f).trans (m892 a f)
                  have m899 : ∀ i, aZ H897 2 i = aZ H 2 i := fun i => (by rw [eH897, aZ_sA_nc (by omega)] : aZ H897 2 i = aZ H891 2 i).trans (m893 i)
                  have m900 : ∀ i, aZ H897 19 i = aZ H 19 i := fun i => (by rw [eH897, aZ_sA_nc (by omega)] : aZ H897 19 i = aZ H891 19 i).trans (m894 i)
                  have m901 : ∀ i, aZ H897 17 i = aZ H 17 i := fun i => (by rw [eH897, aZ_sA_nc (by omega)] : aZ H897 17 i = aZ H891 17 i).trans (m895 i)
                  refine g_aload_n rfl ?_
                  refine g_gfr hIH897 sm_0 rfl ?_
                  refine g_iload_n rfl ?_
                  refine g_iconst (by decide) (fun v902 kv902 => ?_)
                  refine g_zastore hIH897 sm_13 (by omega) (by omega) (fun H903 eH903 hIH903 => ?_)
                  have hJH903 : JM H903 := JM_sA (by decide) eH903 hJH897
                  have m904 : ∀ a f, fZ H903 a f = fZ H a f := fun a f => (by rw [eH903, fZ_sA] : fZ H903 a f = fZ H897 a f).trans (m898 a f)
                  have m905 : ∀ i, aZ H903 2 i = aZ H 2 i := fun i => (by rw [eH903, aZ_sA_nc (by omega)] : aZ H903 2 i = aZ H897 2 i).trans (m899 i)
                  have m906 : ∀ i, aZ H903 19 i = aZ H 19 i := fun i => (by rw [eH903, aZ_sA_nc (by omega)] : aZ H903 19 i = aZ H897 19 i).trans (m900 i)
                  have m907 : ∀ i, aZ H903 17 i = aZ H 17 i := fun i => (by rw [eH903, aZ_sA_nc (by omega)] : aZ H903 17 i = aZ H897 17 i).trans (m901 i)
                  refine g_aload_n rfl ?_
                  refine g_gfr hIH903 sm_0 rfl ?_
                  refine g_iload_n rfl ?_
                  refine g_iconst (by decide) (fun v908 kv908 => ?_)
                  refine g_zastore hIH903 sm_14 (by omega) (by omega) (fun H909 eH909 hIH909 => ?_)
                  have hJH909 : JM H909 := JM_sA (by decide) eH909 hJH903
                  have m910 : ∀ a f, fZ H909 a f = fZ H a f := fun a f => (by rw [eH909, fZ_sA] : fZ H909 a f = fZ H903 a f).trans (m904 a f)
                  have m911 : ∀ i, aZ H909 2 i = aZ H 2 i := fun i => (by rw [eH909, aZ_sA_nc (by omega)] : aZ H909 2 i = aZ H903 2 i).trans (m905 i)
                  have m912 : ∀ i, aZ H909 19 i = aZ H 19 i := fun i => (by rw [eH909, aZ_sA_nc (by omega)] : aZ H909 19 i = aZ H903 19 i).trans (m906 i)
                  have m913 : ∀ i, aZ H909 17 i = aZ H 17 i := fun i => (by rw [eH909, aZ_sA_nc (by omega)] : aZ H909 17 i = aZ H903 17 i).trans (m907 i)
                  refine g_aload_n rfl ?_
                  refine g_gfr hIH909 sm_0 rfl ?_
                  refine g_iload_n rfl ?_
                  refine g_iconst (by decide) (fun v914 kv914 => ?_)
                  refine g_zastore hIH909 sm_15 (by omega) (by omega) (fun H915 eH915 hIH915 => ?_)
                  have hJH915 : JM H915 := JM_sA (by decide) eH915 hJH909
                  have m916 : ∀ a f, fZ H915 a f = fZ H a f := fun a f => (by rw [eH915, fZ_sA] : fZ H915 a f = fZ H909 a f).trans (m910 a f)
                  have m917 : ∀ i, aZ H915 2 i = aZ H 2 i := fun i => (by rw [eH915, aZ_sA_nc (by omega)] : aZ H915 2 i = aZ H909 2 i).trans (m911 i)
                  have m918 : ∀ i, aZ H915 19 i = aZ H 19 i := fun i => (by rw [eH915, aZ_sA_nc (by omega)] : aZ H915 19 i = aZ H909 19 i).trans (m912 i)
                  have m919 : ∀ i, aZ H915 17 i = aZ H 17 i := fun i => (by rw [eH915, aZ_sA_nc (by omega)] : aZ H915 17 i = aZ H909 17 i).trans (m913 i)
                  refine g_nop ?_
                  refine g_iinc (l' := (fun v920 => [(0, .ref 0), (1, .int a1), (2, .int v920)])) rfl rfl (by decide) (by omega) (fun _ => rfl) (fun v920 ev920 => ?_)
                  refine g_goto ?_
                  exact ihL885 v920 H915 hIH915 hJH915 m916 m917 m918 m919 (by omega) (by omega)
                · refine g_goto ?_
                  refine g_iinc (l' := (fun v921 => [(0, .ref 0), (1, .int a1), (2, .int v921)])) rfl rfl (by decide) (by omega) (fun _ => rfl) (fun v921 ev921 => ?_)
                  refine g_goto ?_
                  exact ihL885 v921 H880 hIH880 hJH880 m881 m882 m883 m884 (by omega) (by omega)
          exact L885 _ v878 H867 hIH867 hJH867 m868 m869 m870 m871 (by omega) (Nat.lt_succ_self _)
        · refine g_aload_n rfl ?_
          refine g_gfr hIH867 sm_0 rfl ?_
          refine g_aload_n rfl ?_
          refine g_gfr hIH867 sm_0 rfl ?_
          refine g_iload_n rfl ?_
          refine g_ialoadk hIH867 sm_9 rfl (by omega) ev875 ?_
          refine g_iconst (by decide) (fun v922 kv922 => ?_)
          refine g_zastore hIH867 sm_13 (by omega) (by omega) (fun H923 eH923 hIH923 => ?_)
          have hJH923 : JM H923 := JM_sA (by decide) eH923 hJH867
          have m924 : ∀ a f, fZ H923 a f = fZ H a f := fun a f => (by rw [eH923, fZ_sA] : fZ H923 a f = fZ H867 a f).trans (m868 a f)
          have m925 : ∀ i, aZ H923 2 i = aZ H 2 i := fun i => (by rw [eH923, aZ_sA_nc (by omega)] : aZ H923 2 i = aZ H867 2 i).trans (m869 i)
          have m926 : ∀ i, aZ H923 19 i = aZ H 19 i := fun i => (by rw [eH923, aZ_sA_nc (by omega)] : aZ H923 19 i = aZ H867 19 i).trans (m870 i)
          have m927 : ∀ i, aZ H923 17 i = aZ H 17 i := fun i => (by rw [eH923, aZ_sA_nc (by omega)] : aZ H923 17 i = aZ H867 17 i).trans (m871 i)
          refine g_nop ?_
          refine g_iconst (by decide) (fun v928 kv928 => ?_)
          refine g_istore_n (l' := [(0, .ref 0), (1, .int a1), (2, .int v928)]) rfl rfl ?_
          refine g_nop ?_
          have L935 : ∀ (N : Nat) (v929 : Int32) (H930 : mzH), gI SM H930 → JM H930 → (∀ a f, fZ H930 a f = fZ H a f) → (∀ i, aZ H930 2 i = aZ H 2 i) → (∀ i, aZ H930 19 i = aZ H 19 i) → (∀ i, aZ H930 17 i = aZ H 17 i) → (0 ≤ v929.toInt ∧ v929.toInt ≤ 40) → (40 - v929.toInt).toNat < N → gG 3 zB_197 (mzBlk zB_197 7) [(0, .ref 0), (1, .int a1), (2, .int v929)] [] H930 0 0 (gRv (fun H' => gI SM H' ∧ JM H' ∧ (∀ a f, fZ H' a f = fZ H a f) ∧ (∀ i, aZ H' 2 i = aZ H 2 i) ∧ (∀ i, aZ H' 19 i = aZ H 19 i) ∧ (∀ i, aZ H' 17 i = aZ H 17 i))) := by
            intro N
            induction N with
            | zero => intro v929 H930 hIH930 hJH930 m931 m932 m933 m934 bv929 hmL935; exact absurd hmL935 (Nat.not_lt_zero _)
            | succ N ihL935 =>
              intro v929 H930 hIH930 hJH930 m931 m932 m933 m934 bv929 hmL935
              refine g_iload_n rfl ?_
              refine g_bipush (by decide) (fun v936 kv936 => ?_)
              refine g_if2_ge (fun c937 => ?_) (fun c937 => ?_)
              · exact g_ret ⟨rfl, hIH930, hJH930, m931, m932, m933, m934⟩
              · refine g_aload_n rfl ?_
                refine g_gfr hIH930 sm_0 rfl ?_
                refine g_iload_n rfl ?_
                refine g_baload hIH930 sm_21 rfl (by omega) (fun v938 ev938 lv938 uv938 => ?_)
                refine g_if_ne (fun c939 => ?_) (fun c939 => ?_)
                · refine g_aload_n rfl ?_
                  refine g_gfr hIH930 sm_0 rfl ?_
                  refine g_iload_n rfl ?_
                  refine g_iconst (by decide) (fun v940 kv940 => ?_)
                  refine g_zastore hIH930 sm_16 (by omega) (by omega) (fun H941 eH941 hIH941 => ?_)
                  have hJH941 : JM H941 := JM_sA (by decide) eH941 hJH930
                  have m942 : ∀ a f, fZ H941 a f = fZ H a f := fun a f => (by rw [eH941, fZ_sA] : fZ H941 a f = fZ H930 a f).trans (m931 a f)
                  have m943 : ∀ i, aZ H941 2 i = aZ H 2 i := fun i => (by rw [eH941, aZ_sA_nc (by omega)] : aZ H941 2 i = aZ H930 2 i).trans (m932 i)
                  have m944 : ∀ i, aZ H941 19 i = aZ H 19 i := fun i => (by rw [eH941, aZ_sA_nc (by omega)] : aZ H941 19 i = aZ H930 19 i).trans (m933 i)
                  have m945 : ∀ i, aZ H941 17 i = aZ H 17 i := fun i => (by rw [eH941, aZ_sA_nc (by omega)] : aZ H941 17 i = aZ H930 17 i).trans (m934 i)
                  refine g_aload_n rfl ?_
                  refine g_gfr hIH941 sm_0 rfl ?_
                  refine g_iload_n rfl ?_
                  refine g_bipush (by decide) (fun v946 kv946 => ?_)
                  refine g_iastore hIH941 sm_9 (by omega) (by omega) (fun H947 eH947 hIH947 => ?_)
                  have hJH947 : JM H947 := JM_out hIH941 hJH941 (by omega) (by omega) eH947
                  have m948 : ∀ a f, fZ H947 a f = fZ H a f := fun a f => (by rw [eH947, fZ_sA] : fZ H947 a f = fZ H941 a f).trans (m942 a f)
                  have m949 : ∀ i, aZ H947 2 i = aZ H 2 i := fun i => (by rw [eH947, aZ_sA_nc (by omega)] : aZ H947 2 i = aZ H941 2 i).trans (m943 i)
                  have m950 : ∀ i, aZ H947 19 i = aZ H 19 i := fun i => (by rw [eH947, aZ_sA_nc (by omega)] : aZ H947 19 i = aZ H941 19 i).trans (m944 i)
                  have m951 : ∀ i, aZ H947 17 i = aZ H 17 i := fun i => (by rw [eH947, aZ_sA_nc (by omega)] : aZ H947 17 i = aZ H941 17 i).trans (m945 i)
                  refine g_aload_n rfl ?_
                  refine g_gfr hIH947 sm_0 rfl ?_
                  refine g_iload_n rfl ?_
                  refine g_iconst (by decide) (fun v952 kv952 => ?_)
                  refine g_zastore hIH947 sm_13 (by omega) (by omega) (fun H953 eH953 hIH953 => ?_)
                  have hJH953 : JM H953 := JM_sA (by decide) eH953 hJH947
                  have m954 : ∀ a f, fZ H953 a f = fZ H a f := fun a f => (by rw [eH953, fZ_sA] : fZ H953 a f = fZ H947 a f).trans (m948 a f)
                  have m955 : ∀ i, aZ H953 2 i = aZ H 2 i := fun i => (by rw [eH953, aZ_sA_nc (by omega)] : aZ H953 2 i = aZ H947 2 i).trans (m949 i)
                  have m956 : ∀ i, aZ H953 19 i = aZ H 19 i := fun i => (by rw [eH953, aZ_sA_nc (by omega)] : aZ H953 19 i = aZ H947 19 i).trans (m950 i)
                  have m957 : ∀ i, aZ H953 17 i = aZ H 17 i := fun i => (by rw [eH953, aZ_sA_nc (by omega)] : aZ H953 17 i = aZ H947 17 i).trans (m951 i)
                  refine g_aload_n rfl ?_
                  refine g_gfr hIH953 sm_0 rfl ?_
                  refine g_iload_n rfl ?_
                  refine g_iconst (by decide) (fun v958 kv958 => ?_)
                  refine g_zastore hIH953 sm_14 (by omega) (by omega) (fun H959 eH959 hIH959 => ?_)
                  have hJH959 : JM H959 := JM_sA (by decide) eH959 hJH953
                  have m960 : ∀ a f, fZ H959 a f = fZ H a f := fun a f => (by rw [eH959, fZ_sA] : fZ H959 a f = fZ H953 a f).trans (m954 a f)
                  have m961 : ∀ i, aZ H959 2 i = aZ H 2 i := fun i => (by rw [eH959, aZ_sA_nc (by omega)] : aZ H959 2 i = aZ H953 2 i).trans (m955 i)
                  have m962 : ∀ i, aZ H959 19 i = aZ H 19 i := fun i => (by rw [eH959, aZ_sA_nc (by omega)] : aZ H959 19 i = aZ H953 19 i).trans (m956 i)
                  have m963 : ∀ i, aZ H959 17 i = aZ H 17 i := fun i => (by rw [eH959, aZ_sA_nc (by omega)] : aZ H959 17 i = aZ H953 17 i).trans (m957 i)
                  refine g_aload_n rfl ?_
                  refine g_gfr hIH959 sm_0 rfl ?_
                  refine g_iload_n rfl ?_
                  refine g_iconst (by decide) (fun v964 kv964 => ?_)
                  refine g_zastore hIH959 sm_15 (by omega) (by omega) (fun H965 eH965 hIH965 => ?_)
                  have hJH965 : JM H965 := JM_sA (by decide) eH965 hJH959
                  have m966 : ∀ a f, fZ H965 a f = fZ H a f := fun a f => (by rw [eH965, fZ_sA] : fZ H965 a f = fZ H959 a f).trans (m960 a f)
                  have m967 : ∀ i, aZ H965 2 i = aZ H 2 i := fun i => (by rw [eH965, aZ_sA_nc (by omega)] : aZ H965 2 i = aZ H959 2 i).trans (m961 i)
                  have m968 : ∀ i, aZ H965 19 i = aZ H 19 i := fun i => (by rw [eH965, aZ_sA_nc (by omega)] : aZ H965 19 i = aZ H959 19 i).trans (m962 i)
                  have m969 : ∀ i, aZ H965 17 i = aZ H 17 i := fun i => (by rw [eH965, aZ_sA_nc (by omega)] : aZ H965 17 i = aZ H959 17 i).trans (m963 i)
                  refine g_nop ?_
                  refine g_iinc (l' := (fun v970 => [(0, .ref 0), (1, .int a1), (2, .int v970)])) rfl rfl (by decide) (by omega) (fun _ => rfl) (fun v970 ev970 => ?_)
                  refine g_goto ?_
                  exact ihL935 v970 H965 hIH965 hJH965 m966 m967 m968 m969 (by omega) (by omega)
                · refine g_goto ?_
                  refine g_iinc (l' := (fun v971 => [(0, .ref 0), (1, .int a1), (2, .int v971)])) rfl rfl (by decide) (by omega) (fun _ => rfl) (fun v971 ev971 => ?_)
                  refine g_goto ?_
                  exact ihL935 v971 H930 hIH930 hJH930 m931 m932 m933 m934 (by omega) (by omega)
          exact L935 _ v928 H923 hIH923 hJH923 m924 m925 m926 m927 (by omega) (Nat.lt_succ_self _)
      · refine g_aload_n rfl ?_
        refine g_gfr hIH867 sm_0 rfl ?_
        refine g_iload_n rfl ?_
        refine g_iload_n rfl ?_
        refine g_iload_n rfl ?_
        refine g_if2_eq (fun c972 => ?_) (fun c972 => ?_)
        · refine g_iconst (by decide) (fun v973 kv973 => ?_)
          refine g_goto ?_
          refine g_zastore hIH867 sm_21 (by omega) (by omega) (fun H974 eH974 hIH974 => ?_)
          have hJH974 : JM H974 := JM_sA (by decide) eH974 hJH867
          have m975 : ∀ a f, fZ H974 a f = fZ H a f := fun a f => (by rw [eH974, fZ_sA] : fZ H974 a f = fZ H867 a f).trans (m868 a f)
          have m976 : ∀ i, aZ H974 2 i = aZ H 2 i := fun i => (by rw [eH974, aZ_sA_nc (by omega)] : aZ H974 2 i = aZ H867 2 i).trans (m869 i)
          have m977 : ∀ i, aZ H974 19 i = aZ H 19 i := fun i => (by rw [eH974, aZ_sA_nc (by omega)] : aZ H974 19 i = aZ H867 19 i).trans (m870 i)
          have m978 : ∀ i, aZ H974 17 i = aZ H 17 i := fun i => (by rw [eH974, aZ_sA_nc (by omega)] : aZ H974 17 i = aZ H867 17 i).trans (m871 i)
          refine g_iinc (l' := (fun v979 => [(0, .ref 0), (1, .int a1), (2, .int v979)])) rfl rfl (by decide) (by omega) (fun _ => rfl) (fun v979 ev979 => ?_)
          refine g_goto ?_
          exact ihL872 v979 H974 hIH974 hJH974 m975 m976 m977 m978 (by omega) (by omega)
        · refine g_aload_n rfl ?_
          refine g_iload_n rfl ?_
          refine g_iload_n rfl ?_
          refine g_invvi hIH867 sm_0 rfl rfl rfl rfl (s_186 v866 (by omega) a1 H867 hIH867 hJH867) (fun v982 H980 r981 => ?_)
          obtain ⟨rfl, bv982⟩ := r981
          refine g_if_eq (fun c983 => ?_) (fun c983 => ?_)
          · refine g_iconst (by decide) (fun v984 kv984 => ?_)
            refine g_nop ?_
            refine g_zastore hIH867 sm_21 (by omega) (by omega) (fun H985 eH985 hIH985 => ?_)
            have hJH985 : JM H985 := JM_sA (by decide) eH985 hJH867
            have m986 : ∀ a f, fZ H985 a f = fZ H a f := fun a f => (by rw [eH985, fZ_sA] : fZ H985 a f = fZ H867 a f).trans (m868 a f)
            have m987 : ∀ i, aZ H985 2 i = aZ H 2 i := fun i => (by rw [eH985, aZ_sA_nc (by omega)] : aZ H985 2 i = aZ H867 2 i).trans (m869 i)
            have m988 : ∀ i, aZ H985 19 i = aZ H 19 i := fun i => (by rw [eH985, aZ_sA_nc (by omega)] : aZ H985 19 i = aZ H867 19 i).trans (m870 i)
            have m989 : ∀ i, aZ H985 17 i = aZ H 17 i := fun i => (by rw [eH985, aZ_sA_nc (by omega)] : aZ H985 17 i = aZ H867 17 i).trans (m871 i)
            refine g_iinc (l' := (fun v990 => [(0, .ref 0), (1, .int a1), (2, .int v990)])) rfl rfl (by decide) (by omega) (fun _ => rfl) (fun v990 ev990 => ?_)
            refine g_goto ?_
            exact ihL872 v990 H985 hIH985 hJH985 m986 m987 m988 m989 (by omega) (by omega)
          · refine g_nop ?_
            refine g_iconst (by decide) (fun v991 kv991 => ?_)
            refine g_goto ?_
            refine g_zastore hIH867 sm_21 (by omega) (by omega) (fun H992 eH992 hIH992 => ?_)
            have hJH992 : JM H992 := JM_sA (by decide) eH992 hJH867
            have m993 : ∀ a f, fZ H992 a f = fZ H a f := fun a f => (by rw [eH992, fZ_sA] : fZ H992 a f = fZ H867 a f).trans (m868 a f)
            have m994 : ∀ i, aZ H992 2 i = aZ H 2 i := fun i => (by rw [eH992, aZ_sA_nc (by omega)] : aZ H992 2 i = aZ H867 2 i).trans (m869 i)
            have m995 : ∀ i, aZ H992 19 i = aZ H 19 i := fun i => (by rw [eH992, aZ_sA_nc (by omega)] : aZ H992 19 i = aZ H867 19 i).trans (m870 i)
            have m996 : ∀ i, aZ H992 17 i = aZ H 17 i := fun i => (by rw [eH992, aZ_sA_nc (by omega)] : aZ H992 17 i = aZ H867 17 i).trans (m871 i)
            refine g_iinc (l' := (fun v997 => [(0, .ref 0), (1, .int a1), (2, .int v997)])) rfl rfl (by decide) (by omega) (fun _ => rfl) (fun v997 ev997 => ?_)
            refine g_goto ?_
            exact ihL872 v997 H992 hIH992 hJH992 m993 m994 m995 m996 (by omega) (by omega)
  exact L872 _ v865 H hI hJ mkF mk2 mk19 mk17 (by omega) (Nat.lt_succ_self _)
set_option maxRecDepth 4000 in
set_option maxHeartbeats 4000000 in
/-- M.takes -/
theorem s_194 (a1 : Int32) (ha1 : 0 ≤ a1.toInt ∧ a1.toInt ≤ 10) (a2 : Int32) (ha2 : 0 ≤ a2.toInt ∧ a2.toInt ≤ 39) (a3 : Int32) (a4 : Int32) (a5 : Int32) (H : mzH) (hI : gI SM H) (hJ : JM H) (hp0 : (a1.toInt = 0 → (0 ≤ a3.toInt ∧ a3.toInt ≤ 7 ∧ 0 ≤ a5.toInt ∧ a5.toInt ≤ 2))) (hp1 : ((a1.toInt = 5 ∨ a1.toInt = 6 ∨ a1.toInt = 8) → (0 ≤ a3.toInt ∧ a3.toInt ≤ 7))) (hp2 : (a1.toInt = 1 → (0 ≤ a3.toInt ∧ a3.toInt ≤ 39))) (hp3 : RS H a1 a2 a3) : gCall 194 [.ref 0, .int a1, .int a2, .int a3, .int a4, .int a5] H (gRv (fun H' => gI SM H' ∧ JM H' ∧ (∀ a f, fZ H' a f = fZ H a f) ∧ (∀ i, aZ H' 2 i = aZ H 2 i) ∧ (∀ i, aZ H' 19 i = aZ H 19 i) ∧ (∀ i, aZ H' 17 i = aZ H 17 i))) := by
  have mkF : ∀ a f, fZ H a f = fZ H a f := fun _ _ => rfl
  have mk2 : ∀ i, aZ H 2 i = aZ H 2 i := fun _ => rfl
  have mk19 : ∀ i, aZ H 19 i = aZ H 19 i := fun _ => rfl
  have mk17 : ∀ i, aZ H 17 i = aZ H 17 i := fun _ => rfl
  refine gG_call [(0, .ref 0), (1, .int a1), (2, .int a2), (3, .int a3), (4, .int a4), (5, .int a5)] ⟨rfl, rfl, rfl, rfl, rfl, rfl, trivial⟩ ?_
  show gG 6 zB_194 (mzBlk zB_194 0) [(0, .ref 0), (1, .int a1), (2, .int a2), (3, .int a3), (4, .int a4), (5, .int a5)] [] H 0 0 _
  refine g_iload_n rfl ?_
  refine g_sw (by decide) (fun c445 => ?_) ⟨fun c445 => ?_, fun c445 => ?_, fun c445 => ?_, fun c445 => ?_, fun c445 => ?_, fun c445 => ?_, fun c445 => ?_, fun c445 => ?_, fun c445 => ?_, fun c445 => ?_, trivial⟩
  · refine g_aload_n rfl ?_
    refine g_gfr hI sm_0 rfl ?_
    refine g_iload_n rfl ?_
    refine g_iconst (by decide) (fun v446 kv446 => ?_)
    refine g_zastore hI sm_14 (by omega) (by omega) (fun H447 eH447 hIH447 => ?_)
    have hJH447 : JM H447 := JM_sA (by decide) eH447 hJ
    have m448 : ∀ a f, fZ H447 a f = fZ H a f := fun a f => (by rw [eH447, fZ_sA] : fZ H447 a f = fZ H a f).trans (mkF a f)
    have m449 : ∀ i, aZ H447 2 i = aZ H 2 i := fun i => (by rw [eH447, aZ_sA_nc (by omega)] : aZ H447 2 i = aZ H 2 i).trans (mk2 i)
    have m450 : ∀ i, aZ H447 19 i = aZ H 19 i := fun i => (by rw [eH447, aZ_sA_nc (by omega)] : aZ H447 19 i = aZ H 19 i).trans (mk19 i)
    have m451 : ∀ i, aZ H447 17 i = aZ H 17 i := fun i => (by rw [eH447, aZ_sA_nc (by omega)] : aZ H447 17 i = aZ H 17 i).trans (mk17 i)
    refine g_nop ?_
    exact g_ret ⟨rfl, hIH447, hJH447, m448, m449, m450, m451⟩
  · refine g_aload_n rfl ?_
    refine g_gfr hI sm_0 rfl ?_
    refine g_iload_n rfl ?_
    refine g_iconst (by decide) (fun v452 kv452 => ?_)
    refine g_zastore hI sm_7 (by omega) (by omega) (fun H453 eH453 hIH453 => ?_)
    have hJH453 : JM H453 := JM_mk1 hI hJ (by omega) eH453
    have m454 : ∀ a f, fZ H453 a f = fZ H a f := fun a f => (by rw [eH453, fZ_sA] : fZ H453 a f = fZ H a f).trans (mkF a f)
    have m455 : ∀ i, aZ H453 2 i = aZ H 2 i := fun i => (by rw [eH453, aZ_sA_nc (by omega)] : aZ H453 2 i = aZ H 2 i).trans (mk2 i)
    have m456 : ∀ i, aZ H453 19 i = aZ H 19 i := fun i => (by rw [eH453, aZ_sA_nc (by omega)] : aZ H453 19 i = aZ H 19 i).trans (mk19 i)
    have m457 : ∀ i, aZ H453 17 i = aZ H 17 i := fun i => (by rw [eH453, aZ_sA_nc (by omega)] : aZ H453 17 i = aZ H 17 i).trans (mk17 i)
    refine g_aload_n rfl ?_
    refine g_gfr hIH453 sm_0 rfl ?_
    refine g_iload_n rfl ?_
    refine g_iload rfl ?_
    refine g_iastore hIH453 sm_8 (by omega) (by omega) (fun H458 eH458 hIH458 => ?_)
    have hJH458 : JM H458 := JM_mk2 hI hIH453 hJ (by omega) (hp3.1 (by omega)) (by omega) eH453 eH458
    have m459 : ∀ a f, fZ H458 a f = fZ H a f := fun a f => (by rw [eH458, fZ_sA] : fZ H458 a f = fZ H453 a f).trans (m454 a f)
    have m460 : ∀ i, aZ H458 2 i = aZ H 2 i := fun i => (by rw [eH458, aZ_sA_nc (by omega)] : aZ H458 2 i = aZ H453 2 i).trans (m455 i)
    have m461 : ∀ i, aZ H458 19 i = aZ H 19 i := fun i => (by rw [eH458, aZ_sA_nc (by omega)] : aZ H458 19 i = aZ H453 19 i).trans (m456 i)
    have m462 : ∀ i, aZ H458 17 i = aZ H 17 i := fun i => (by rw [eH458, aZ_sA_nc (by omega)] : aZ H458 17 i = aZ H453 17 i).trans (m457 i)
    refine g_aload_n rfl ?_
    refine g_iload_n rfl ?_
    refine g_iload_n rfl ?_
    refine g_iload rfl ?_
    refine g_invvv hIH458 sm_0 rfl rfl rfl rfl (s_193 a2 (by omega) a3 (by omega) a4 H458 hIH458 hJH458) (fun H463 r464 => ?_)
    obtain ⟨hIH463, hJH463, m465, m466, m467, m468⟩ := r464
    have m469 : ∀ a f, fZ H463 a f = fZ H a f := fun a f => (m465 a f).trans (m459 a f)
    have m470 : ∀ i, aZ H463 2 i = aZ H 2 i := fun i => (m466 i).trans (m460 i)
    have m471 : ∀ i, aZ H463 19 i = aZ H 19 i := fun i => (m467 i).trans (m461 i)
    have m472 : ∀ i, aZ H463 17 i = aZ H 17 i := fun i => (m468 i).trans (m462 i)
    refine g_goto ?_
    exact g_ret ⟨rfl, hIH463, hJH463, m469, m470, m471, m472⟩
  · refine g_aload_n rfl ?_
    refine g_gfr hI sm_0 rfl ?_
    refine g_iload_n rfl ?_
    refine g_iload_n rfl ?_
    refine g_iastore hI sm_9 (by omega) (by omega) (fun H473 eH473 hIH473 => ?_)
    have hJH473 : JM H473 := JM_pack hI hJ (by omega) (by omega) (hp3.2.2 (by omega)) eH473
    have m474 : ∀ a f, fZ H473 a f = fZ H a f := fun a f => (by rw [eH473, fZ_sA] : fZ H473 a f = fZ H a f).trans (mkF a f)
    have m475 : ∀ i, aZ H473 2 i = aZ H 2 i := fun i => (by rw [eH473, aZ_sA_nc (by omega)] : aZ H473 2 i = aZ H 2 i).trans (mk2 i)
    have m476 : ∀ i, aZ H473 19 i = aZ H 19 i := fun i => (by rw [eH473, aZ_sA_nc (by omega)] : aZ H473 19 i = aZ H 19 i).trans (mk19 i)
    have m477 : ∀ i, aZ H473 17 i = aZ H 17 i := fun i => (by rw [eH473, aZ_sA_nc (by omega)] : aZ H473 17 i = aZ H 17 i).trans (mk17 i)
    refine g_goto ?_
    exact g_ret ⟨rfl, hIH473, hJH473, m474, m475, m476, m477⟩
  · refine g_aload_n rfl ?_
    refine g_iload_n rfl ?_
    refine g_aload_n rfl ?_
    refine g_gfr hI sm_0 rfl ?_
    refine g_aload_n rfl ?_
    refine g_iload_n rfl ?_
    refine g_invvi hI sm_0 rfl rfl rfl rfl (s_185 a2 (by omega) H hI hJ) (fun v480 H478 r479 => ?_)
    obtain ⟨rfl, bv480⟩ := r479
    refine g_iaload hI sm_10 rfl (by omega) (fun v481 ev481 lv481 uv481 => ?_)
    refine g_iload rfl ?_
    refine g_invvv hI sm_0 rfl rfl rfl rfl (s_195 a2 (by omega) v481 (by omega) a4 H hI hJ (hp3.2.1 (by omega))) (fun H482 r483 => ?_)
    obtain ⟨hIH482, hJH482, m484, m485, m486, m487⟩ := r483
    have m488 : ∀ a f, fZ H482 a f = fZ H a f := fun a f => (m484 a f).trans (mkF a f)
    have m489 : ∀ i, aZ H482 2 i = aZ H 2 i := fun i => (m485 i).trans (mk2 i)
    have m490 : ∀ i, aZ H482 19 i = aZ H 19 i := fun i => (m486 i).trans (mk19 i)
    have m491 : ∀ i, aZ H482 17 i = aZ H 17 i := fun i => (m487 i).trans (mk17 i)
    refine g_goto ?_
    exact g_ret ⟨rfl, hIH482, hJH482, m488, m489, m490, m491⟩
  · refine g_aload_n rfl ?_
    refine g_gfr hI sm_0 rfl ?_
    refine g_iload_n rfl ?_
    refine g_iconst (by decide) (fun v492 kv492 => ?_)
    refine g_zastore hI sm_13 (by omega) (by omega) (fun H493 eH493 hIH493 => ?_)
    have hJH493 : JM H493 := JM_sA (by decide) eH493 hJ
    have m494 : ∀ a f, fZ H493 a f = fZ H a f := fun a f => (by rw [eH493, fZ_sA] : fZ H493 a f = fZ H a f).trans (mkF a f)
    have m495 : ∀ i, aZ H493 2 i = aZ H 2 i := fun i => (by rw [eH493, aZ_sA_nc (by omega)] : aZ H493 2 i = aZ H 2 i).trans (mk2 i)
    have m496 : ∀ i, aZ H493 19 i = aZ H 19 i := fun i => (by rw [eH493, aZ_sA_nc (by omega)] : aZ H493 19 i = aZ H 19 i).trans (mk19 i)
    have m497 : ∀ i, aZ H493 17 i = aZ H 17 i := fun i => (by rw [eH493, aZ_sA_nc (by omega)] : aZ H493 17 i = aZ H 17 i).trans (mk17 i)
    refine g_goto ?_
    exact g_ret ⟨rfl, hIH493, hJH493, m494, m495, m496, m497⟩
  · refine g_aload_n rfl ?_
    refine g_gfr hI sm_0 rfl ?_
    refine g_iload_n rfl ?_
    refine g_iconst (by decide) (fun v498 kv498 => ?_)
    refine g_zastore hI sm_13 (by omega) (by omega) (fun H499 eH499 hIH499 => ?_)
    have hJH499 : JM H499 := JM_sA (by decide) eH499 hJ
    have m500 : ∀ a f, fZ H499 a f = fZ H a f := fun a f => (by rw [eH499, fZ_sA] : fZ H499 a f = fZ H a f).trans (mkF a f)
    have m501 : ∀ i, aZ H499 2 i = aZ H 2 i := fun i => (by rw [eH499, aZ_sA_nc (by omega)] : aZ H499 2 i = aZ H 2 i).trans (mk2 i)
    have m502 : ∀ i, aZ H499 19 i = aZ H 19 i := fun i => (by rw [eH499, aZ_sA_nc (by omega)] : aZ H499 19 i = aZ H 19 i).trans (mk19 i)
    have m503 : ∀ i, aZ H499 17 i = aZ H 17 i := fun i => (by rw [eH499, aZ_sA_nc (by omega)] : aZ H499 17 i = aZ H 17 i).trans (mk17 i)
    refine g_goto ?_
    exact g_ret ⟨rfl, hIH499, hJH499, m500, m501, m502, m503⟩
  · refine g_aload_n rfl ?_
    refine g_iload_n rfl ?_
    refine g_iload_n rfl ?_
    refine g_iload rfl ?_
    refine g_invvv hI sm_0 rfl rfl rfl rfl (s_193 a2 (by omega) a3 (by omega) a4 H hI hJ) (fun H504 r505 => ?_)
    obtain ⟨hIH504, hJH504, m506, m507, m508, m509⟩ := r505
    have m510 : ∀ a f, fZ H504 a f = fZ H a f := fun a f => (m506 a f).trans (mkF a f)
    have m511 : ∀ i, aZ H504 2 i = aZ H 2 i := fun i => (m507 i).trans (mk2 i)
    have m512 : ∀ i, aZ H504 19 i = aZ H 19 i := fun i => (m508 i).trans (mk19 i)
    have m513 : ∀ i, aZ H504 17 i = aZ H 17 i := fun i => (m509 i).trans (mk17 i)
    refine g_goto ?_
    exact g_ret ⟨rfl, hIH504, hJH504, m510, m511, m512, m513⟩
  · refine g_aload_n rfl ?_
    refine g_iload_n rfl ?_
    refine g_iload_n rfl ?_
    refine g_iload rfl ?_
    refine g_invvv hI sm_0 rfl rfl rfl rfl (s_196 a2 (by omega) a3 (by omega) a4 H hI hJ) (fun H514 r515 => ?_)
    obtain ⟨hIH514, hJH514, m516, m517, m518, m519⟩ := r515
    have m520 : ∀ a f, fZ H514 a f = fZ H a f := fun a f => (m516 a f).trans (mkF a f)
    have m521 : ∀ i, aZ H514 2 i = aZ H 2 i := fun i => (m517 i).trans (mk2 i)
    have m522 : ∀ i, aZ H514 19 i = aZ H 19 i := fun i => (m518 i).trans (mk19 i)
    have m523 : ∀ i, aZ H514 17 i = aZ H 17 i := fun i => (m519 i).trans (mk17 i)
    refine g_goto ?_
    exact g_ret ⟨rfl, hIH514, hJH514, m520, m521, m522, m523⟩
  · refine g_aload_n rfl ?_
    refine g_gfr hI sm_0 rfl ?_
    refine g_iload_n rfl ?_
    refine g_iconst (by decide) (fun v524 kv524 => ?_)
    refine g_zastore hI sm_15 (by omega) (by omega) (fun H525 eH525 hIH525 => ?_)
    have hJH525 : JM H525 := JM_sA (by decide) eH525 hJ
    have m526 : ∀ a f, fZ H525 a f = fZ H a f := fun a f => (by rw [eH525, fZ_sA] : fZ H525 a f = fZ H a f).trans (mkF a f)
    have m527 : ∀ i, aZ H525 2 i = aZ H 2 i := fun i => (by rw [eH525, aZ_sA_nc (by omega)] : aZ H525 2 i = aZ H 2 i).trans (mk2 i)
    have m528 : ∀ i, aZ H525 19 i = aZ H 19 i := fun i => (by rw [eH525, aZ_sA_nc (by omega)] : aZ H525 19 i = aZ H 19 i).trans (mk19 i)
    have m529 : ∀ i, aZ H525 17 i = aZ H 17 i := fun i => (by rw [eH525, aZ_sA_nc (by omega)] : aZ H525 17 i = aZ H 17 i).trans (mk17 i)
    refine g_goto ?_
    exact g_ret ⟨rfl, hIH525, hJH525, m526, m527, m528, m529⟩
  · refine g_aload_n rfl ?_
    refine g_gfr hI sm_0 rfl ?_
    refine g_iload_n rfl ?_
    refine g_iconst (by decide) (fun v530 kv530 => ?_)
    refine g_zastore hI sm_15 (by omega) (by omega) (fun H531 eH531 hIH531 => ?_)
    have hJH531 : JM H531 := JM_sA (by decide) eH531 hJ
    have m532 : ∀ a f, fZ H531 a f = fZ H a f := fun a f => (by rw [eH531, fZ_sA] : fZ H531 a f = fZ H a f).trans (mkF a f)
    have m533 : ∀ i, aZ H531 2 i = aZ H 2 i := fun i => (by rw [eH531, aZ_sA_nc (by omega)] : aZ H531 2 i = aZ H 2 i).trans (mk2 i)
    have m534 : ∀ i, aZ H531 19 i = aZ H 19 i := fun i => (by rw [eH531, aZ_sA_nc (by omega)] : aZ H531 19 i = aZ H 19 i).trans (mk19 i)
    have m535 : ∀ i, aZ H531 17 i = aZ H 17 i := fun i => (by rw [eH531, aZ_sA_nc (by omega)] : aZ H531 17 i = aZ H 17 i).trans (mk17 i)
    refine g_aload_n rfl ?_
    refine g_iload_n rfl ?_
    refine g_iload_n rfl ?_
    refine g_iload rfl ?_
    refine g_invvv hIH531 sm_0 rfl rfl rfl rfl (s_193 a2 (by omega) a3 (by omega) a4 H531 hIH531 hJH531) (fun H536 r537 => ?_)
    obtain ⟨hIH536, hJH536, m538, m539, m540, m541⟩ := r537
    have m542 : ∀ a f, fZ H536 a f = fZ H a f := fun a f => (m538 a f).trans (m532 a f)
    have m543 : ∀ i, aZ H536 2 i = aZ H 2 i := fun i => (m539 i).trans (m533 i)
    have m544 : ∀ i, aZ H536 19 i = aZ H 19 i := fun i => (m540 i).trans (m534 i)
    have m545 : ∀ i, aZ H536 17 i = aZ H 17 i := fun i => (m541 i).trans (m535 i)
    refine g_goto ?_
    exact g_ret ⟨rfl, hIH536, hJH536, m542, m543, m544, m545⟩
  · refine g_aload_n rfl ?_
    refine g_iload_n rfl ?_
    refine g_invvv hI sm_0 rfl rfl rfl rfl (s_197 a2 (by omega) H hI hJ) (fun H546 r547 => ?_)
    obtain ⟨hIH546, hJH546, m548, m549, m550, m551⟩ := r547
    have m552 : ∀ a f, fZ H546 a f = fZ H a f := fun a f => (m548 a f).trans (mkF a f)
    have m553 : ∀ i, aZ H546 2 i = aZ H 2 i := fun i => (m549 i).trans (mk2 i)
    have m554 : ∀ i, aZ H546 19 i = aZ H 19 i := fun i => (m550 i).trans (mk19 i)
    have m555 : ∀ i, aZ H546 17 i = aZ H 17 i := fun i => (m551 i).trans (mk17 i)
    refine g_goto ?_
    exact g_ret ⟨rfl, hIH546, hJH546, m552, m553, m554, m555⟩
set_option maxRecDepth 4000 in
set_option maxHeartbeats 4000000 in
/-- M.looks -/
theorem s_192 (a1 : Int32) (ha1 : 0 ≤ a1.toInt ∧ a1.toInt ≤ 59) (H : mzH) (hI : gI SM H) (hJ : JM H) : gCall 192 [.ref 0, .int a1] H (gRv (fun H' => gI SM H' ∧ JM H' ∧ (∀ a f, fZ H' a f = fZ H a f) ∧ (∀ i, aZ H' 2 i = aZ H 2 i) ∧ (∀ i, aZ H' 19 i = aZ H 19 i) ∧ (∀ i, aZ H' 17 i = aZ H 17 i))) := by
  have mkF : ∀ a f, fZ H a f = fZ H a f := fun _ _ => rfl
  have mk2 : ∀ i, aZ H 2 i = aZ H 2 i := fun _ => rfl
  have mk19 : ∀ i, aZ H 19 i = aZ H 19 i := fun _ => rfl
  have mk17 : ∀ i, aZ H 17 i = aZ H 17 i := fun _ => rfl
  have mk7 : ∀ i, aZ H 7 i = aZ H 7 i := fun _ => rfl
  have mk8 : ∀ i, aZ H 8 i = aZ H 8 i := fun _ => rfl
  have mk9 : ∀ i, aZ H 9 i = aZ H 9 i := fun _ => rfl
  refine gG_call [(0, .ref 0), (1, .int a1)] ⟨rfl, rfl, trivial⟩ ?_
  show gG 4 zB_192 (mzBlk zB_192 0) [(0, .ref 0), (1, .int a1)] [] H 0 0 _
  refine g_aload_n rfl ?_
  refine g_gfr hI sm_0 rfl ?_
  refine g_iload_n rfl ?_
  refine g_aload_n rfl ?_
  refine g_iload_n rfl ?_
  refine g_invvi hI sm_0 rfl rfl rfl rfl (s_191 a1 (by omega) H hI hJ) (fun v335 H333 r334 => ?_)
  obtain ⟨rfl, p336⟩ := r334
  refine g_iastore hI sm_20 (by omega) (gz_any _) (fun H337 eH337 hIH337 => ?_)
  have hJH337 : JM H337 := JM_sA (by decide) eH337 hJ
  have m338 : ∀ a f, fZ H337 a f = fZ H a f := fun a f => (by rw [eH337, fZ_sA] : fZ H337 a f = fZ H a f).trans (mkF a f)
  have m339 : ∀ i, aZ H337 2 i = aZ H 2 i := fun i => (by rw [eH337, aZ_sA_nc (by omega)] : aZ H337 2 i = aZ H 2 i).trans (mk2 i)
  have m340 : ∀ i, aZ H337 19 i = aZ H 19 i := fun i => (by rw [eH337, aZ_sA_nc (by omega)] : aZ H337 19 i = aZ H 19 i).trans (mk19 i)
  have m341 : ∀ i, aZ H337 17 i = aZ H 17 i := fun i => (by rw [eH337, aZ_sA_nc (by omega)] : aZ H337 17 i = aZ H 17 i).trans (mk17 i)
  have m342 : ∀ i, aZ H337 7 i = aZ H 7 i := fun i => (by rw [eH337, aZ_sA_nc (by omega)] : aZ H337 7 i = aZ H 7 i).trans (mk7 i)
  have m343 : ∀ i, aZ H337 8 i = aZ H 8 i := fun i => (by rw [eH337, aZ_sA_nc (by omega)] : aZ H337 8 i = aZ H 8 i).trans (mk8 i)
  have m344 : ∀ i, aZ H337 9 i = aZ H 9 i := fun i => (by rw [eH337, aZ_sA_nc (by omega)] : aZ H337 9 i = aZ H 9 i).trans (mk9 i)
  have e345 : v335 = aZ H337 20 a1.toInt.toNat := by rw [eH337, aZ_sA_eq hI sm_20 (by omega)]
  refine g_aload_n rfl ?_
  refine g_iload_n rfl ?_
  refine g_iconst (by decide) (fun v346 kv346 => ?_)
  refine g_invvi hIH337 sm_0 rfl rfl rfl rfl (s_181 a1 (by omega) v346 (by omega) H337 hIH337 (JM_n hJH337)) (fun v349 H347 r348 => ?_)
  obtain ⟨rfl, p350⟩ := r348
  have tv349 : v349 = aZ H337 2 (69 + 5 * a1.toInt + 1).toNat := by rw [p350, kv346]
  have qv349 := JN_w1 (JM_n hJH337) (by omega) tv349
  refine g_istore_n (l' := [(0, .ref 0), (1, .int a1), (2, .int v349)]) rfl rfl ?_
  refine g_aload_n rfl ?_
  refine g_iload_n rfl ?_
  refine g_iconst (by decide) (fun v351 kv351 => ?_)
  refine g_invvi hIH337 sm_0 rfl rfl rfl rfl (s_181 a1 (by omega) v351 (by omega) H337 hIH337 (JM_n hJH337)) (fun v354 H352 r353 => ?_)
  obtain ⟨rfl, p355⟩ := r353
  have tv354 : v354 = aZ H337 2 (69 + 5 * a1.toInt + 2).toNat := by rw [p355, kv351]
  have qv354 := JN_w2 (JM_n hJH337) (by omega) tv354
  refine g_istore_n (l' := [(0, .ref 0), (1, .int a1), (2, .int v349), (3, .int v354)]) rfl rfl ?_
  refine g_aload_n rfl ?_
  refine g_gfr hIH337 sm_0 rfl ?_
  refine g_iload_n rfl ?_
  refine g_ialoadk hIH337 sm_20 rfl (by omega) e345 ?_
  refine g_if_ne (fun c356 => ?_) (fun c356 => ?_)
  · refine g_iload_n rfl ?_
    refine g_if_ne (fun c357 => ?_) (fun c357 => ?_)
    · refine g_iload_n rfl ?_
      refine g_bipush (by decide) (fun v358 kv358 => ?_)
      refine g_if2_ne (fun c359 => ?_) (fun c359 => ?_)
      · exact g_ret ⟨rfl, hIH337, hJH337, m338, m339, m340, m341⟩
      · refine g_aload_n rfl ?_
        refine g_gfr hIH337 sm_0 rfl ?_
        refine g_iload_n rfl ?_
        refine g_ialoadk hIH337 sm_20 rfl (by omega) e345 ?_
        refine g_bipush (by decide) (fun v360 kv360 => ?_)
        refine g_if2_eq (fun c361 => ?_) (fun c361 => ?_)
        · refine g_aload_n rfl ?_
          refine g_gfr hIH337 sm_0 rfl ?_
          refine g_iload_n rfl ?_
          refine g_iconst (by decide) (fun v362 kv362 => ?_)
          refine g_zastore hIH337 sm_14 (by omega) (by omega) (fun H363 eH363 hIH363 => ?_)
          have hJH363 : JM H363 := JM_sA (by decide) eH363 hJH337
          have m364 : ∀ a f, fZ H363 a f = fZ H a f := fun a f => (by rw [eH363, fZ_sA] : fZ H363 a f = fZ H337 a f).trans (m338 a f)
          have m365 : ∀ i, aZ H363 2 i = aZ H 2 i := fun i => (by rw [eH363, aZ_sA_nc (by omega)] : aZ H363 2 i = aZ H337 2 i).trans (m339 i)
          have m366 : ∀ i, aZ H363 19 i = aZ H 19 i := fun i => (by rw [eH363, aZ_sA_nc (by omega)] : aZ H363 19 i = aZ H337 19 i).trans (m340 i)
          have m367 : ∀ i, aZ H363 17 i = aZ H 17 i := fun i => (by rw [eH363, aZ_sA_nc (by omega)] : aZ H363 17 i = aZ H337 17 i).trans (m341 i)
          have m368 : ∀ i, aZ H363 7 i = aZ H 7 i := fun i => (by rw [eH363, aZ_sA_nc (by omega)] : aZ H363 7 i = aZ H337 7 i).trans (m342 i)
          have m369 : ∀ i, aZ H363 8 i = aZ H 8 i := fun i => (by rw [eH363, aZ_sA_nc (by omega)] : aZ H363 8 i = aZ H337 8 i).trans (m343 i)
          have m370 : ∀ i, aZ H363 9 i = aZ H 9 i := fun i => (by rw [eH363, aZ_sA_nc (by omega)] : aZ H363 9 i = aZ H337 9 i).trans (m344 i)
          refine g_nop ?_
          exact g_ret ⟨rfl, hIH363, hJH363, m364, m365, m366, m367⟩
        · refine g_aload_n rfl ?_
          refine g_gfr hIH337 sm_0 rfl ?_
          refine g_iload_n rfl ?_
          refine g_ialoadk hIH337 sm_20 rfl (by omega) e345 ?_
          refine g_bipush (by decide) (fun v371 kv371 => ?_)
          refine g_if2_ne (fun c372 => ?_) (fun c372 => ?_)
          · exact g_ret ⟨rfl, hIH337, hJH337, m338, m339, m340, m341⟩
          · refine g_nop ?_
            refine g_aload_n rfl ?_
            refine g_gfr hIH337 sm_0 rfl ?_
            refine g_iload_n rfl ?_
            refine g_iconst (by decide) (fun v373 kv373 => ?_)
            refine g_zastore hIH337 sm_14 (by omega) (by omega) (fun H374 eH374 hIH374 => ?_)
            have hJH374 : JM H374 := JM_sA (by decide) eH374 hJH337
            have m375 : ∀ a f, fZ H374 a f = fZ H a f := fun a f => (by rw [eH374, fZ_sA] : fZ H374 a f = fZ H337 a f).trans (m338 a f)
            have m376 : ∀ i, aZ H374 2 i = aZ H 2 i := fun i => (by rw [eH374, aZ_sA_nc (by omega)] : aZ H374 2 i = aZ H337 2 i).trans (m339 i)
            have m377 : ∀ i, aZ H374 19 i = aZ H 19 i := fun i => (by rw [eH374, aZ_sA_nc (by omega)] : aZ H374 19 i = aZ H337 19 i).trans (m340 i)
            have m378 : ∀ i, aZ H374 17 i = aZ H 17 i := fun i => (by rw [eH374, aZ_sA_nc (by omega)] : aZ H374 17 i = aZ H337 17 i).trans (m341 i)
            have m379 : ∀ i, aZ H374 7 i = aZ H 7 i := fun i => (by rw [eH374, aZ_sA_nc (by omega)] : aZ H374 7 i = aZ H337 7 i).trans (m342 i)
            have m380 : ∀ i, aZ H374 8 i = aZ H 8 i := fun i => (by rw [eH374, aZ_sA_nc (by omega)] : aZ H374 8 i = aZ H337 8 i).trans (m343 i)
            have m381 : ∀ i, aZ H374 9 i = aZ H 9 i := fun i => (by rw [eH374, aZ_sA_nc (by omega)] : aZ H374 9 i = aZ H337 9 i).trans (m344 i)
            refine g_nop ?_
            exact g_ret ⟨rfl, hIH374, hJH374, m375, m376, m377, m378⟩
    · refine g_aload_n rfl ?_
      refine g_gfr hIH337 sm_0 rfl ?_
      refine g_iload_n rfl ?_
      refine g_baload hIH337 sm_16 rfl (by omega) (fun v382 ev382 lv382 uv382 => ?_)
      refine g_if_eq (fun c383 => ?_) (fun c383 => ?_)
      · refine g_aload_n rfl ?_
        refine g_gfr hIH337 sm_0 rfl ?_
        refine g_iload_n rfl ?_
        refine g_iconst (by decide) (fun v384 kv384 => ?_)
        refine g_zastore hIH337 sm_14 (by omega) (by omega) (fun H385 eH385 hIH385 => ?_)
        have hJH385 : JM H385 := JM_sA (by decide) eH385 hJH337
        have m386 : ∀ a f, fZ H385 a f = fZ H a f := fun a f => (by rw [eH385, fZ_sA] : fZ H385 a f = fZ H337 a f).trans (m338 a f)
        have m387 : ∀ i, aZ H385 2 i = aZ H 2 i := fun i => (by rw [eH385, aZ_sA_nc (by omega)] : aZ H385 2 i = aZ H337 2 i).trans (m339 i)
        have m388 : ∀ i, aZ H385 19 i = aZ H 19 i := fun i => (by rw [eH385, aZ_sA_nc (by omega)] : aZ H385 19 i = aZ H337 19 i).trans (m340 i)
        have m389 : ∀ i, aZ H385 17 i = aZ H 17 i := fun i => (by rw [eH385, aZ_sA_nc (by omega)] : aZ H385 17 i = aZ H337 17 i).trans (m341 i)
        have m390 : ∀ i, aZ H385 7 i = aZ H 7 i := fun i => (by rw [eH385, aZ_sA_nc (by omega)] : aZ H385 7 i = aZ H337 7 i).trans (m342 i)
        have m391 : ∀ i, aZ H385 8 i = aZ H 8 i := fun i => (by rw [eH385, aZ_sA_nc (by omega)] : aZ H385 8 i = aZ H337 8 i).trans (m343 i)
        have m392 : ∀ i, aZ H385 9 i = aZ H 9 i := fun i => (by rw [eH385, aZ_sA_nc (by omega)] : aZ H385 9 i = aZ H337 9 i).trans (m344 i)
        refine g_nop ?_
        exact g_ret ⟨rfl, hIH385, hJH385, m386, m387, m388, m389⟩
      · refine g_nop ?_
        refine g_iload_n rfl ?_
        refine g_bipush (by decide) (fun v393 kv393 => ?_)
        refine g_if2_ne (fun c394 => ?_) (fun c394 => ?_)
        · exact g_ret ⟨rfl, hIH337, hJH337, m338, m339, m340, m341⟩
        · exfalso; omega
  · refine g_aload_n rfl ?_
    refine g_iload_n rfl ?_
    refine g_iload_n rfl ?_
    refine g_aload_n rfl ?_
    refine g_iload_n rfl ?_
    refine g_iconst (by decide) (fun v395 kv395 => ?_)
    refine g_invvi hIH337 sm_0 rfl rfl rfl rfl (s_181 a1 (by omega) v395 (by omega) H337 hIH337 (JM_n hJH337)) (fun v398 H396 r397 => ?_)
    obtain ⟨rfl, p399⟩ := r397
    have tv398 : v398 = aZ H337 2 (69 + 5 * a1.toInt + 3).toNat := by rw [p399, kv395]
    have qv398 := JN_w3 (JM_n hJH337) (by omega) tv349 tv398
    refine g_aload_n rfl ?_
    refine g_gfr hIH337 sm_0 rfl ?_
    refine g_iload_n rfl ?_
    refine g_iaload hIH337 sm_18 rfl (by omega) (fun v400 ev400 lv400 uv400 => ?_)
    refine g_aload_n rfl ?_
    refine g_iload_n rfl ?_
    refine g_iconst (by decide) (fun v401 kv401 => ?_)
    refine g_invvi hIH337 sm_0 rfl rfl rfl rfl (s_181 a1 (by omega) v401 (by omega) H337 hIH337 (JM_n hJH337)) (fun v404 H402 r403 => ?_)
    obtain ⟨rfl, p405⟩ := r403
    have tv404 : v404 = aZ H337 2 (69 + 5 * a1.toInt + 4).toNat := by rw [p405, kv401]
    have qv404 := JN_w4 (JM_n hJH337) (by omega) tv349 tv404
    refine g_invvv hIH337 sm_0 rfl rfl rfl rfl (s_194 v349 (by omega) v354 (by omega) v398 v400 v404 H337 hIH337 hJH337 (by omega) (by omega) (by omega) (RS_cg m342 m343 m344 (p336 v349 v354 v398 ((tv349.trans (m339 _))) ((tv354.trans (m339 _))) ((tv398.trans (m339 _))) (by omega)))) (fun H406 r407 => ?_)
    obtain ⟨hIH406, hJH406, m408, m409, m410, m411⟩ := r407
    have m412 : ∀ a f, fZ H406 a f = fZ H a f := fun a f => (m408 a f).trans (m338 a f)
    have m413 : ∀ i, aZ H406 2 i = aZ H 2 i := fun i => (m409 i).trans (m339 i)
    have m414 : ∀ i, aZ H406 19 i = aZ H 19 i := fun i => (m410 i).trans (m340 i)
    have m415 : ∀ i, aZ H406 17 i = aZ H 17 i := fun i => (m411 i).trans (m341 i)
    refine g_goto ?_
    exact g_ret ⟨rfl, hIH406, hJH406, m412, m413, m414, m415⟩
set_option maxRecDepth 4000 in
set_option maxHeartbeats 4000000 in
/-- M.runs -/
theorem s_198 (a1 : Int32) (H : mzH) (hI : gI SM H) (hJ : JN H) : gCall 198 [.ref 0, .int a1] H (gRv (fun H' => gI SM H' ∧ JM H' ∧ fZ H' 0 2 = fZ H 0 2 ∧ (∀ i, aZ H' 2 i = aZ H 2 i) ∧ (∀ i, aZ H' 17 i = aZ H 17 i) ∧ pmA H' (aZ H' 2 2).toInt 60)) := by
  obtain ⟨k0_2, ek0_2⟩ : ∃ z, z = fZ H 0 2 := ⟨_, rfl⟩
  have ik0_2 : k0_2.toInt = (fZ H 0 2).toInt := by rw [← ek0_2]
  have bk0_2 : 0 ≤ k0_2.toInt ∧ k0_2.toInt ≤ 900 := by rw [ek0_2]; exact fZ_of hI sm_0 rfl
  have mk2 : ∀ i, aZ H 2 i = aZ H 2 i := fun _ => rfl
  have mk17 : ∀ i, aZ H 17 i = aZ H 17 i := fun _ => rfl
  refine gG_call [(0, .ref 0), (1, .int a1)] ⟨rfl, rfl, trivial⟩ ?_
  show gG 3 zB_198 (mzBlk zB_198 0) [(0, .ref 0), (1, .int a1)] [] H 0 0 _
  refine g_aload_n rfl ?_
  refine g_invvv hI sm_0 rfl rfl rfl rfl (s_184 H hI hJ) (fun H265 r266 => ?_)
  obtain ⟨hIH265, hJH265, w267, m268, m269, p270⟩ := r266
  have e271 : k0_2 = fZ H265 0 2 := ek0_2.trans w267.symm
  have m272 : ∀ i, aZ H265 2 i = aZ H 2 i := fun i => (m268 i).trans (mk2 i)
  have m273 : ∀ i, aZ H265 17 i = aZ H 17 i := fun i => (m269 i).trans (mk17 i)
  refine g_iconst (by decide) (fun v274 kv274 => ?_)
  refine g_istore_n (l' := [(0, .ref 0), (1, .int a1), (2, .int v274)]) rfl rfl ?_
  refine g_nop ?_
  have L280 : ∀ (N : Nat) (v275 : Int32) (H276 : mzH), gI SM H276 → JM H276 → k0_2 = fZ H276 0 2 → (∀ i, aZ H276 2 i = aZ H 2 i) → (∀ i, aZ H276 17 i = aZ H 17 i) → (0 ≤ v275.toInt ∧ v275.toInt ≤ 60) → pmA H276 (aZ H276 2 2).toInt 60 → (60 - v275.toInt).toNat < N → gG 3 zB_198 (mzBlk zB_198 1) [(0, .ref 0), (1, .int a1), (2, .int v275)] [] H276 0 0 (gRv (fun H' => gI SM H' ∧ JM H' ∧ fZ H' 0 2 = fZ H 0 2 ∧ (∀ i, aZ H' 2 i = aZ H 2 i) ∧ (∀ i, aZ H' 17 i = aZ H 17 i) ∧ pmA H' (aZ H' 2 2).toInt 60)) := by
    intro N
    induction N with
    | zero => intro v275 H276 hIH276 hJH276 e277 m278 m279 bv275 q1 hmL280; exact absurd hmL280 (Nat.not_lt_zero _)
    | succ N ihL280 =>
      intro v275 H276 hIH276 hJH276 e277 m278 m279 bv275 q1 hmL280
      refine g_iload_n rfl ?_
      refine g_aload_n rfl ?_
      refine g_gfi hIH276 sm_0 rfl (fun v281 ev281 lv281 uv281 => ?_)
      refine g_if2_ge (fun c282 => ?_) (fun c282 => ?_)
      · exact g_ret ⟨rfl, hIH276, hJH276, (e277.symm.trans ek0_2), m278, m279, q1⟩
      · refine g_aload_n rfl ?_
        refine g_gfr hIH276 sm_0 rfl ?_
        refine g_aload_n rfl ?_
        refine g_gfr hIH276 sm_0 rfl ?_
        refine g_iload_n rfl ?_
        refine g_iaload hIH276 sm_19 rfl (by omega) (fun v283 ev283 lv283 uv283 => ?_)
        refine g_iaload hIH276 sm_18 rfl (by omega) (fun v284 ev284 lv284 uv284 => ?_)
        refine g_iload_n rfl ?_
        refine g_if2_gt (fun c285 => ?_) (fun c285 => ?_)
        · exact g_ret ⟨rfl, hIH276, hJH276, (e277.symm.trans ek0_2), m278, m279, q1⟩
        · refine g_aload_n rfl ?_
          refine g_aload_n rfl ?_
          refine g_gfr hIH276 sm_0 rfl ?_
          refine g_iload_n rfl ?_
          refine g_ialoadk hIH276 sm_19 rfl (by omega) ev283 ?_
          refine g_invvv hIH276 sm_0 rfl rfl rfl rfl (s_192 v283 (by omega) H276 hIH276 hJH276) (fun H286 r287 => ?_)
          obtain ⟨hIH286, hJH286, m288, m289, m290, m291⟩ := r287
          have e292 : k0_2 = fZ H286 0 2 := e277.trans (m288 0 2).symm
          have m293 : ∀ i, aZ H286 2 i = aZ H 2 i := fun i => (m289 i).trans (m278 i)
          have m294 : ∀ i, aZ H286 17 i = aZ H 17 i := fun i => (m291 i).trans (m279 i)
          refine g_iinc (l' := (fun v295 => [(0, .ref 0), (1, .int a1), (2, .int v295)])) rfl rfl (by decide) (by omega) (fun _ => rfl) (fun v295 ev295 => ?_)
          refine g_goto ?_
          exact ihL280 v295 H286 hIH286 hJH286 e292 m293 m294 (by omega) (by rw [m289 2]; exact pmA_cg m291 m290 q1) (by omega)
  exact L280 _ v274 H265 hIH265 hJH265 e271 m272 m273 (by omega) p270 (Nat.lt_succ_self _)
set_option maxRecDepth 4000 in
set_option maxHeartbeats 4000000 in
/-- M.runsAll -/
theorem s_199 (H : mzH) (hI : gI SM H) (hJ : JN H) : gCall 199 [.ref 0] H (gRv (fun H' => gI SM H' ∧ JM H' ∧ fZ H' 0 2 = fZ H 0 2 ∧ (∀ i, aZ H' 2 i = aZ H 2 i) ∧ (∀ q : Nat, (q : Int) < (aZ H' 2 2).toInt → ∃ p : Nat, p < 60 ∧ (aZ H' 19 p).toInt = q))) := by
  obtain ⟨k0_2, ek0_2⟩ : ∃ z, z = fZ H 0 2 := ⟨_, rfl⟩
  have ik0_2 : k0_2.toInt = (fZ H 0 2).toInt := by rw [← ek0_2]
  have bk0_2 : 0 ≤ k0_2.toInt ∧ k0_2.toInt ≤ 900 := by rw [ek0_2]; exact fZ_of hI sm_0 rfl
  have mk2 : ∀ i, aZ H 2 i = aZ H 2 i := fun _ => rfl
  refine gG_call [(0, .ref 0)] ⟨rfl, trivial⟩ ?_
  show gG 1 zB_199 (mzBlk zB_199 0) [(0, .ref 0)] [] H 0 0 _
  refine g_aload_n rfl ?_
  refine g_invvv hI sm_0 rfl rfl rfl rfl (s_182 H hI hJ) (fun H65 r66 => ?_)
  obtain ⟨hIH65, hJH65, m67, m68, p69⟩ := r66
  have e70 : k0_2 = fZ H65 0 2 := ek0_2.trans (m67 0 2).symm
  have m71 : ∀ i, aZ H65 2 i = aZ H 2 i := fun i => (m68 i).trans (mk2 i)
  refine g_aload_n rfl ?_
  refine g_sipush (by decide) (fun v72 kv72 => ?_)
  refine g_invvv hIH65 sm_0 rfl rfl rfl rfl (s_198 v72 H65 hIH65 hJH65) (fun H73 r74 => ?_)
  obtain ⟨hIH73, hJH73, w75, m76, m77, p78⟩ := r74
  have e79 : k0_2 = fZ H73 0 2 := e70.trans w75.symm
  have m80 : ∀ i, aZ H73 2 i = aZ H 2 i := fun i => (m76 i).trans (m71 i)
  exact g_ret ⟨rfl, hIH73, hJH73, (e79.symm.trans ek0_2), m80, (fun q hq => by obtain ⟨p, hp, e⟩ := p78 q hq (by rw [m77 q]; exact p69 q (by rw [← m76 2]; exact hq)); exact ⟨p, by omega, e⟩)⟩
set_option maxRecDepth 4000 in
set_option maxHeartbeats 4000000 in
/-- M.runsTo -/
theorem s_200 (a1 : Int32) (H : mzH) (hI : gI SM H) (hJ : JN H) : gCall 200 [.ref 0, .int a1] H (gRv (fun H' => gI SM H' ∧ JM H' ∧ fZ H' 0 2 = fZ H 0 2)) := by
  obtain ⟨k0_2, ek0_2⟩ : ∃ z, z = fZ H 0 2 := ⟨_, rfl⟩
  have ik0_2 : k0_2.toInt = (fZ H 0 2).toInt := by rw [← ek0_2]
  have bk0_2 : 0 ≤ k0_2.toInt ∧ k0_2.toInt ≤ 900 := by rw [ek0_2]; exact fZ_of hI sm_0 rfl
  refine gG_call [(0, .ref 0), (1, .int a1)] ⟨rfl, rfl, trivial⟩ ?_
  show gG 2 zB_200 (mzBlk zB_200 0) [(0, .ref 0), (1, .int a1)] [] H 0 0 _
  refine g_aload_n rfl ?_
  refine g_invvv hI sm_0 rfl rfl rfl rfl (s_182 H hI hJ) (fun H53 r54 => ?_)
  obtain ⟨hIH53, hJH53, m55, m56, p57⟩ := r54
  have e58 : k0_2 = fZ H53 0 2 := ek0_2.trans (m55 0 2).symm
  refine g_aload_n rfl ?_
  refine g_iload_n rfl ?_
  refine g_invvv hIH53 sm_0 rfl rfl rfl rfl (s_198 a1 H53 hIH53 hJH53) (fun H59 r60 => ?_)
  obtain ⟨hIH59, hJH59, w61, m62, m63, p64⟩ := r60
  have e65 : k0_2 = fZ H59 0 2 := e58.trans w61.symm
  exact g_ret ⟨rfl, hIH59, hJH59, (e65.symm.trans ek0_2)⟩
set_option maxRecDepth 4000 in
set_option maxHeartbeats 4000000 in
/-- M.whereIs -/
theorem s_201 (a1 : Int32) (ha1 : 0 ≤ a1.toInt ∧ a1.toInt ≤ 39) (H : mzH) (hI : gI SM H) (hJ : JM H) : gCall 201 [.ref 0, .int a1] H (gRi (fun v H' => H = H' ∧ (-4 ≤ v.toInt ∧ v.toInt ≤ 7))) := by
  refine gG_call [(0, .ref 0), (1, .int a1)] ⟨rfl, rfl, trivial⟩ ?_
  show gG 3 zB_201 (mzBlk zB_201 0) [(0, .ref 0), (1, .int a1)] [] H 0 0 _
  refine g_aload_n rfl ?_
  refine g_gfr hI sm_0 rfl ?_
  refine g_iload_n rfl ?_
  refine g_baload hI sm_7 rfl (by omega) (fun v53 ev53 lv53 uv53 => ?_)
  refine g_if_ne (fun c54 => ?_) (fun c54 => ?_)
  · refine g_aload_n rfl ?_
    refine g_gfr hI sm_0 rfl ?_
    refine g_iload_n rfl ?_
    refine g_baload hI sm_16 rfl (by omega) (fun v55 ev55 lv55 uv55 => ?_)
    refine g_if_eq (fun c56 => ?_) (fun c56 => ?_)
    · refine g_aload_n rfl ?_
      refine g_iload_n rfl ?_
      refine g_invvi hI sm_0 rfl rfl rfl rfl (s_185 a1 (by omega) H hI hJ) (fun v59 H57 r58 => ?_)
      obtain ⟨rfl, bv59⟩ := r58
      refine g_istore_n (l' := [(0, .ref 0), (1, .int a1), (2, .int v59)]) rfl rfl ?_
      refine g_aload_n rfl ?_
      refine g_gfr hI sm_0 rfl ?_
      refine g_iload_n rfl ?_
      refine g_baload hI sm_15 rfl (by omega) (fun v60 ev60 lv60 uv60 => ?_)
      refine g_if_eq (fun c61 => ?_) (fun c61 => ?_)
      · refine g_aload_n rfl ?_
        refine g_gfr hI sm_0 rfl ?_
        refine g_iload_n rfl ?_
        refine g_iaload hI sm_10 rfl (by omega) (fun v62 ev62 lv62 uv62 => ?_)
        refine g_nop ?_
        exact g_iret ⟨_, rfl, rfl, (by omega)⟩
      · refine g_bipush (by decide) (fun v63 kv63 => ?_)
        refine g_goto ?_
        exact g_iret ⟨_, rfl, rfl, (by omega)⟩
    · refine g_bipush (by decide) (fun v64 kv64 => ?_)
      exact g_iret ⟨_, rfl, rfl, (by omega)⟩
  · refine g_bipush (by decide) (fun v65 kv65 => ?_)
    exact g_iret ⟨_, rfl, rfl, (by omega)⟩
set_option maxRecDepth 4000 in
theorem s_203 (a1 : Int32) (ha1 : 0 ≤ a1.toInt ∧ a1.toInt ≤ 59) (H : mzH) (hI : gI SM H) (hJ : JN H) (hp0 : ∃ p : Nat, p < 60 ∧ (aZ H 19 p).toInt = a1.toInt) : gCall 203 [.ref 0, .int a1] H (gRi (fun v H' => H = H')) := by
  obtain ⟨p, hp, hpe⟩ := hp0
  refine gG_call [(0, .ref 0), (1, .int a1)] ⟨rfl, rfl, trivial⟩ ?_
  show gG 3 zB_203 (mzBlk zB_203 0) [(0, .ref 0), (1, .int a1)] [] H 0 0 _
  refine g_iconst (by decide) (fun v1 kv1 => ?_)
  refine g_istore_n (l' := [(0, .ref 0), (1, .int a1), (2, .int v1)]) rfl rfl ?_
  refine g_nop ?_
  have L : ∀ (N : Nat) (v2 : Int32), (0 ≤ v2.toInt ∧ v2.toInt ≤ p) → (p - v2.toInt).toNat < N → gG 3 zB_203 (mzBlk zB_203 1) [(0, .ref 0), (1, .int a1), (2, .int v2)] [] H 0 0 (gRi (fun v H' => H = H')) := by
    intro N
    induction N with
    | zero => intro v2 _ hm; exact absurd hm (Nat.not_lt_zero _)
    | succ N ih =>
      intro v2 b2 hm
      refine g_aload_n rfl ?_
      refine g_gfr hI sm_0 rfl ?_
      refine g_iload_n rfl ?_
      refine g_iaload hI sm_19 rfl (by omega) (fun v3 ev3 lv3 uv3 => ?_)
      refine g_iload_n rfl ?_
      refine g_if2_eq (fun c => ?_) (fun c => ?_)
      · refine g_iload_n rfl ?_
        exact g_iret ⟨_, rfl, rfl⟩
      · have hne : ¬ v2.toInt = p := fun h => c (by rw [ev3, show v2.toInt.toNat = p by omega]; exact hpe)
        refine g_iinc (l' := (fun v4 => [(0, .ref 0), (1, .int a1), (2, .int v4)])) rfl rfl (by decide) (by omega) (fun _ => rfl) (fun v4 ev4 => ?_)
        refine g_goto ?_
        exact ih v4 (by omega) (by omega)
  exact L _ v1 (by omega) (Nat.lt_succ_self _)

set_option maxRecDepth 4000 in
set_option maxHeartbeats 4000000 in
/-- M.isLate -/
theorem s_204 (a1 : Int32) (ha1 : 0 ≤ a1.toInt ∧ a1.toInt ≤ 59) (H : mzH) (hI : gI SM H) (hJ : JN H) : gCall 204 [.ref 0, .int a1] H (gRi (fun v H' => H = H' ∧ (0 ≤ v.toInt ∧ v.toInt ≤ 1))) := by
  refine gG_call [(0, .ref 0), (1, .int a1)] ⟨rfl, rfl, trivial⟩ ?_
  show gG 3 zB_204 (mzBlk zB_204 0) [(0, .ref 0), (1, .int a1)] [] H 0 0 _
  refine g_iconst (by decide) (fun v226 kv226 => ?_)
  refine g_istore_n (l' := [(0, .ref 0), (1, .int a1), (2, .int v226)]) rfl rfl ?_
  refine g_nop ?_
  have L228 : ∀ (N : Nat) (v227 : Int32), (0 ≤ v227.toInt ∧ v227.toInt ≤ 59) → (59 - v227.toInt).toNat < N → gG 3 zB_204 (mzBlk zB_204 1) [(0, .ref 0), (1, .int a1), (2, .int v227)] [] H 0 0 (gRi (fun v H' => H = H' ∧ (0 ≤ v.toInt ∧ v.toInt ≤ 1))) := by
    intro N
    induction N with
    | zero => intro v227 bv227 hmL228; exact absurd hmL228 (Nat.not_lt_zero _)
    | succ N ihL228 =>
      intro v227 bv227 hmL228
      refine g_iload_n rfl ?_
      refine g_iload_n rfl ?_
      refine g_if2_ge (fun c229 => ?_) (fun c229 => ?_)
      · refine g_iconst (by decide) (fun v230 kv230 => ?_)
        exact g_zret (by omega) ⟨_, rfl, rfl, (by omega)⟩
      · refine g_aload_n rfl ?_
        refine g_iload_n rfl ?_
        refine g_iconst (by decide) (fun v231 kv231 => ?_)
        refine g_invvi hI sm_0 rfl rfl rfl rfl (s_181 v227 (by omega) v231 (by omega) H hI hJ) (fun v234 H232 r233 => ?_)
        obtain ⟨rfl, p235⟩ := r233
        have tv234 : v234 = aZ H 2 (69 + 5 * v227.toInt + 0).toNat := by rw [p235, kv231]
        refine g_aload_n rfl ?_
        refine g_iload_n rfl ?_
        refine g_iconst (by decide) (fun v236 kv236 => ?_)
        refine g_invvi hI sm_0 rfl rfl rfl rfl (s_181 a1 (by omega) v236 (by omega) H hI hJ) (fun v239 H237 r238 => ?_)
        obtain ⟨rfl, p240⟩ := r238
        have tv239 : v239 = aZ H 2 (69 + 5 * a1.toInt + 0).toNat := by rw [p240, kv236]
        refine g_if2_le (fun c241 => ?_) (fun c241 => ?_)
        · refine g_iinc (l' := (fun v242 => [(0, .ref 0), (1, .int a1), (2, .int v242)])) rfl rfl (by decide) (by omega) (fun _ => rfl) (fun v242 ev242 => ?_)
          refine g_goto ?_
          exact ihL228 v242 (by omega) (by omega)
        · refine g_iconst (by decide) (fun v243 kv243 => ?_)
          exact g_zret (by omega) ⟨_, rfl, rfl, (by omega)⟩
  exact L228 _ v226 (by omega) (Nat.lt_succ_self _)
