set_option maxRecDepth 4000 in
set_option maxHeartbeats 4000000 in
/-- M.hours -/
theorem s_180 (a1 : Int32) (a2 : Int32) (H : mzH) (hI : gI SM H) (hJ : JN H) : gCall 180 [.ref 0, .int a1, .int a2] H (gRi (fun v H' => gI SM H' ∧ JN H' ∧ fZ H' 0 2 = fZ H 0 2 ∧ kpM H H')) := by
  obtain ⟨k0_2, ek0_2⟩ : ∃ z, z = fZ H 0 2 := ⟨_, rfl⟩
  have ik0_2 : k0_2.toInt = (fZ H 0 2).toInt := by rw [← ek0_2]
  have bk0_2 : 0 ≤ k0_2.toInt ∧ k0_2.toInt ≤ 900 := by rw [ek0_2]; exact fZ_of hI sm_0 rfl
  have mkfr : kpM H H := kpM_r
  refine gG_call [(0, .ref 0), (1, .int a1), (2, .int a2)] ⟨rfl, rfl, rfl, trivial⟩ ?_
  show gG 3 zB_180 (mzBlk zB_180 0) [(0, .ref 0), (1, .int a1), (2, .int a2)] [] H 0 0 _
  refine g_aload_n rfl ?_
  refine g_iconst (by decide) (fun v109 kv109 => ?_)
  refine g_pfi hI sm_0 rfl (gz_any _) (fun H110 eH110 hIH110 => ?_)
  have hJH110 : JN H110 := JN_sF eH110 hJ
  have e111 : k0_2 = fZ H110 0 2 := by rw [eH110, fZ_sF_ne (by decide)]; exact ek0_2
  have m112 : kpM H H110 := kpM_F mkfr eH110 (by first | with_reducible assumption | omega)
  refine g_aload_n rfl ?_
  refine g_iload_n rfl ?_
  refine g_invvi hIH110 sm_0 rfl rfl rfl rfl (s_211 a1 H110 hIH110 hJH110) (fun v115 H113 r114 => ?_)
  obtain ⟨rfl, bv115, p116⟩ := r114
  refine g_if_eq (fun c117 => ?_) (fun c117 => ?_)
  · refine g_iconst (by decide) (fun v118 kv118 => ?_)
    exact g_iret ⟨_, rfl, hIH110, hJH110, (e111.symm.trans ek0_2), m112⟩
  · refine g_aload_n rfl ?_
    refine g_iload_n rfl ?_
    refine g_invvi hIH110 sm_0 rfl rfl rfl rfl (s_211 a2 H110 hIH110 hJH110) (fun v121 H119 r120 => ?_)
    obtain ⟨rfl, bv121, p122⟩ := r120
    refine g_if_ne (fun c123 => ?_) (fun c123 => ?_)
    · refine g_aload_n rfl ?_
      refine g_gfr hIH110 sm_0 rfl ?_
      refine g_bipush (by decide) (fun v124 kv124 => ?_)
      refine g_iload_n rfl ?_
      refine g_imulk' (n := 8) kv124 (by first | with_reducible assumption | omega) (fun v125 ev125 => ?_)
      refine g_iload_n rfl ?_
      refine g_iadd (by first | with_reducible assumption | omega) (fun v126 ev126 => ?_)
      refine g_iaload hIH110 sm_6 rfl (by first | with_reducible assumption | omega) (fun v127 ev127 lv127 uv127 => ?_)
      refine g_ldc (by decide) (fun v128 kv128 => ?_)
      refine g_if2_lt (fun c129 => ?_) (fun c129 => ?_)
      · refine g_aload_n rfl ?_
        refine g_gfr hIH110 sm_0 rfl ?_
        refine g_bipush (by decide) (fun v130 kv130 => ?_)
        refine g_iload_n rfl ?_
        refine g_imulk' (n := 8) kv130 (by first | with_reducible assumption | omega) (fun v131 ev131 => ?_)
        refine g_iload_n rfl ?_
        refine g_iadd (by first | with_reducible assumption | omega) (fun v132 ev132 => ?_)
        refine g_iaload hIH110 sm_6 rfl (by first | with_reducible assumption | omega) (fun v133 ev133 lv133 uv133 => ?_)
        refine g_nop ?_
        exact g_iret ⟨_, rfl, hIH110, hJH110, (e111.symm.trans ek0_2), m112⟩
      · refine g_bipush (by decide) (fun v134 kv134 => ?_)
        refine g_goto ?_
        exact g_iret ⟨_, rfl, hIH110, hJH110, (e111.symm.trans ek0_2), m112⟩
    · refine g_nop ?_
      refine g_iconst (by decide) (fun v135 kv135 => ?_)
      exact g_iret ⟨_, rfl, hIH110, hJH110, (e111.symm.trans ek0_2), m112⟩
set_option maxRecDepth 4000 in
set_option maxHeartbeats 4000000 in
/-- M.messages -/
theorem s_181 (H : mzH) (hI : gI SM H) (hJ : JN H) : gCall 181 [.ref 0] H (gRi (fun v H' => H = H' ∧ (0 ≤ v.toInt ∧ v.toInt ≤ 60) ∧ v.toInt = (aZ H 2 2).toInt)) := by
  refine gG_call [(0, .ref 0)] ⟨rfl, trivial⟩ ?_
  show gG 1 zB_181 (mzBlk zB_181 0) [(0, .ref 0)] [] H 0 0 _
  refine g_aload_n rfl ?_
  refine g_gfr hI sm_0 rfl ?_
  refine g_iconst (by decide) (fun v9 kv9 => ?_)
  refine g_iaload hI sm_2 rfl (by first | with_reducible assumption | omega) (fun v10 ev10 lv10 uv10 => ?_)
  have qv10 := JN_n22 hJ (v := v10) (by rw [ev10, show v9.toInt.toNat = 2 from by omega])
  exact g_iret ⟨_, rfl, rfl, (by first | with_reducible assumption | omega), (by rw [ev10, show v9.toInt.toNat = 2 from by omega])⟩
set_option maxRecDepth 4000 in
set_option maxHeartbeats 4000000 in
/-- M.told -/
theorem s_182 (a1 : Int32) (ha1 : 0 ≤ a1.toInt ∧ a1.toInt ≤ 59) (a2 : Int32) (ha2 : 0 ≤ a2.toInt ∧ a2.toInt ≤ 4) (H : mzH) (hI : gI SM H) (hJ : JN H) : gCall 182 [.ref 0, .int a1, .int a2] H (gRi (fun v H' => H = H' ∧ v = aZ H 2 (69 + 5 * a1.toInt + a2.toInt).toNat)) := by
  refine gG_call [(0, .ref 0), (1, .int a1), (2, .int a2)] ⟨rfl, rfl, rfl, trivial⟩ ?_
  show gG 3 zB_182 (mzBlk zB_182 0) [(0, .ref 0), (1, .int a1), (2, .int a2)] [] H 0 0 _
  refine g_aload_n rfl ?_
  refine g_gfr hI sm_0 rfl ?_
  refine g_bipush (by decide) (fun v25 kv25 => ?_)
  refine g_iconst (by decide) (fun v26 kv26 => ?_)
  refine g_iload_n rfl ?_
  refine g_imulk' (n := 5) kv26 (by first | with_reducible assumption | omega) (fun v27 ev27 => ?_)
  refine g_iadd (by first | with_reducible assumption | omega) (fun v28 ev28 => ?_)
  refine g_iload_n rfl ?_
  refine g_iadd (by first | with_reducible assumption | omega) (fun v29 ev29 => ?_)
  refine g_iaload hI sm_2 rfl (by first | with_reducible assumption | omega) (fun v30 ev30 lv30 uv30 => ?_)
  exact g_iret ⟨_, rfl, rfl, (by rw [ev30, show v29.toInt = 69 + 5 * a1.toInt + a2.toInt from by omega])⟩
set_option maxRecDepth 4000 in
set_option maxHeartbeats 4000000 in
/-- M.takesAll -/
theorem s_183 (H : mzH) (hI : gI SM H) (hJ : JN H) : gCall 183 [.ref 0] H (gRv (fun H' => gI SM H' ∧ JN H' ∧ (∀ a f, fZ H' a f = fZ H a f) ∧ (∀ i, aZ H' 2 i = aZ H 2 i) ∧ kpM H H' ∧ (∀ q : Nat, (q : Int) < (aZ H' 2 2).toInt → ¬ (aZ H' 17 q).toInt = 0))) := by
  have mkF : ∀ a f, fZ H a f = fZ H a f := fun _ _ => rfl
  have mk2 : ∀ i, aZ H 2 i = aZ H 2 i := fun _ => rfl
  have mkfr : kpM H H := kpM_r
  refine gG_call [(0, .ref 0)] ⟨rfl, trivial⟩ ?_
  show gG 2 zB_183 (mzBlk zB_183 0) [(0, .ref 0)] [] H 0 0 _
  refine g_iconst (by decide) (fun v299 kv299 => ?_)
  refine g_istore_n (l' := [(0, .ref 0), (1, .int v299)]) rfl rfl ?_
  refine g_nop ?_
  have L305 : ∀ (N : Nat) (v300 : Int32) (H301 : mzH), gI SM H301 → JN H301 → (∀ a f, fZ H301 a f = fZ H a f) → (∀ i, aZ H301 2 i = aZ H 2 i) → kpM H H301 → (0 ≤ v300.toInt ∧ v300.toInt ≤ 60) → (∀ q : Nat, q < v300.toInt.toNat → ¬ (aZ H301 17 q).toInt = 0) → (60 - v300.toInt).toNat < N → gG 2 zB_183 (mzBlk zB_183 1) [(0, .ref 0), (1, .int v300)] [] H301 0 0 (gRv (fun H' => gI SM H' ∧ JN H' ∧ (∀ a f, fZ H' a f = fZ H a f) ∧ (∀ i, aZ H' 2 i = aZ H 2 i) ∧ kpM H H' ∧ (∀ q : Nat, (q : Int) < (aZ H' 2 2).toInt → ¬ (aZ H' 17 q).toInt = 0))) := by
    intro N
    induction N with
    | zero => intro v300 H301 hIH301 hJH301 m302 m303 m304 bv300 q1 hmL305; exact absurd hmL305 (Nat.not_lt_zero _)
    | succ N ihL305 =>
      intro v300 H301 hIH301 hJH301 m302 m303 m304 bv300 q1 hmL305
      refine g_iload_n rfl ?_
      refine g_aload_n rfl ?_
      refine g_invvi hIH301 sm_0 rfl rfl rfl rfl (s_181 H301 hIH301 hJH301) (fun v308 H306 r307 => ?_)
      obtain ⟨rfl, bv308, p309⟩ := r307
      refine g_if2_ge (fun c310 => ?_) (fun c310 => ?_)
      · exact g_ret ⟨rfl, hIH301, hJH301, m302, m303, m304, (fun q hq => q1 q (by first | with_reducible assumption | omega))⟩
      · refine g_aload_n rfl ?_
        refine g_gfr hIH301 sm_0 rfl ?_
        refine g_iload_n rfl ?_
        refine g_iconst (by decide) (fun v311 kv311 => ?_)
        refine g_zastore hIH301 sm_17 (by first | with_reducible assumption | omega) (by first | with_reducible assumption | omega) (fun H312 eH312 hIH312 => ?_)
        have hJH312 : JN H312 := JN_sA (by decide) eH312 hJH301
        have m313 : ∀ a f, fZ H312 a f = fZ H a f := fun a f => (by rw [eH312, fZ_sA] : fZ H312 a f = fZ H301 a f).trans (m302 a f)
        have m314 : ∀ i, aZ H312 2 i = aZ H 2 i := fun i => (by rw [eH312, aZ_sA_nc (by first | with_reducible assumption | omega)] : aZ H312 2 i = aZ H301 2 i).trans (m303 i)
        have m315 : kpM H H312 := kpM_A m304 eH312 (by first | with_reducible assumption | omega)
        refine g_aload_n rfl ?_
        refine g_gfr hIH312 sm_0 rfl ?_
        refine g_iload_n rfl ?_
        refine g_aload_n rfl ?_
        refine g_iload_n rfl ?_
        refine g_iconst (by decide) (fun v316 kv316 => ?_)
        refine g_invvi hIH312 sm_0 rfl rfl rfl rfl (s_182 v300 (by first | with_reducible assumption | omega) v316 (by first | with_reducible assumption | omega) H312 hIH312 hJH312) (fun v319 H317 r318 => ?_)
        obtain ⟨rfl, p320⟩ := r318
        have tv319 : v319 = aZ H312 2 (69 + 5 * v300.toInt + 0).toNat := by rw [p320, kv316]
        refine g_iastore hIH312 sm_18 (by first | with_reducible assumption | omega) (gz_any _) (fun H321 eH321 hIH321 => ?_)
        have hJH321 : JN H321 := JN_sA (by decide) eH321 hJH312
        have m322 : ∀ a f, fZ H321 a f = fZ H a f := fun a f => (by rw [eH321, fZ_sA] : fZ H321 a f = fZ H312 a f).trans (m313 a f)
        have m323 : ∀ i, aZ H321 2 i = aZ H 2 i := fun i => (by rw [eH321, aZ_sA_nc (by first | with_reducible assumption | omega)] : aZ H321 2 i = aZ H312 2 i).trans (m314 i)
        have m324 : kpM H H321 := kpM_A m315 eH321 (by first | with_reducible assumption | omega)
        refine g_iinc (l' := (fun v325 => [(0, .ref 0), (1, .int v325)])) rfl rfl (by decide) (by first | with_reducible assumption | omega) (fun _ => rfl) (fun v325 ev325 => ?_)
        refine g_goto ?_
        exact ihL305 v325 H321 hIH321 hJH321 m322 m323 m324 (by first | with_reducible assumption | omega) (fun q hq => by rw [eH321, aZ_sA_nc (by decide), eH312]; if e : v300.toInt.toNat = q then (subst e; rw [aZ_sA_eq hIH301 sm_17 (by first | with_reducible assumption | omega)]; omega) else (rw [aZ_sA_ne e]; exact q1 q (by first | with_reducible assumption | omega))) (by first | with_reducible assumption | omega)
  exact L305 _ v299 H hI hJ mkF mk2 mkfr (by first | with_reducible assumption | omega) (fun q hq => absurd hq (by first | with_reducible assumption | omega)) (Nat.lt_succ_self _)
set_option maxRecDepth 4000 in
set_option maxHeartbeats 4000000 in
/-- M.sorts -/
theorem s_184 (H : mzH) (hI : gI SM H) (hJ : JM H) : gCall 184 [.ref 0] H (gRv (fun H' => gI SM H' ∧ JM H' ∧ fZ H' 0 2 = fZ H 0 2 ∧ fZ H' 0 0 = fZ H 0 0 ∧ (∀ i, aZ H' 2 i = aZ H 2 i) ∧ (∀ i, aZ H' 17 i = aZ H 17 i) ∧ kpM H H' ∧ pmA H' (aZ H' 2 2).toInt 60)) := by
  obtain ⟨k0_2, ek0_2⟩ : ∃ z, z = fZ H 0 2 := ⟨_, rfl⟩
  have ik0_2 : k0_2.toInt = (fZ H 0 2).toInt := by rw [← ek0_2]
  have bk0_2 : 0 ≤ k0_2.toInt ∧ k0_2.toInt ≤ 900 := by rw [ek0_2]; exact fZ_of hI sm_0 rfl
  obtain ⟨k0_0, ek0_0⟩ : ∃ z, z = fZ H 0 0 := ⟨_, rfl⟩
  have ik0_0 : k0_0.toInt = (fZ H 0 0).toInt := by rw [← ek0_0]
  have mk2 : ∀ i, aZ H 2 i = aZ H 2 i := fun _ => rfl
  have mk17 : ∀ i, aZ H 17 i = aZ H 17 i := fun _ => rfl
  have mkfr : kpM H H := kpM_r
  refine gG_call [(0, .ref 0)] ⟨rfl, trivial⟩ ?_
  show gG 3 zB_184 (mzBlk zB_184 0) [(0, .ref 0)] [] H 0 0 _
  refine g_aload_n rfl ?_
  refine g_iconst (by decide) (fun v775 kv775 => ?_)
  refine g_pfi hI sm_0 rfl (by first | with_reducible assumption | omega) (fun H776 eH776 hIH776 => ?_)
  have hJH776 : JM H776 := JM_sF eH776 hJ
  have e777 : k0_2 = fZ H776 0 2 := by rw [eH776, fZ_sF_ne (by decide)]; exact ek0_2
  have e778 : k0_0 = fZ H776 0 0 := by rw [eH776, fZ_sF_ne (by decide)]; exact ek0_0
  have e779 : v775 = fZ H776 0 34 := by rw [eH776, fZ_sF_eq hI sm_0 rfl]
  have m780 : ∀ i, aZ H776 2 i = aZ H 2 i := fun i => (by rw [eH776, aZ_sF] : aZ H776 2 i = aZ H 2 i).trans (mk2 i)
  have m781 : ∀ i, aZ H776 17 i = aZ H 17 i := fun i => (by rw [eH776, aZ_sF] : aZ H776 17 i = aZ H 17 i).trans (mk17 i)
  have m782 : kpM H H776 := kpM_F mkfr eH776 (by first | with_reducible assumption | omega)
  have ie779 : v775.toInt = (fZ H776 0 34).toInt := by rw [← e779]
  refine g_iconst (by decide) (fun v783 kv783 => ?_)
  refine g_istore_n (l' := [(0, .ref 0), (1, .int v783)]) rfl rfl ?_
  refine g_nop ?_
  have L791 : ∀ (N : Nat) (v784 : Int32) (H785 : mzH), gI SM H785 → JM H785 → k0_2 = fZ H785 0 2 → k0_0 = fZ H785 0 0 → (∀ i, aZ H785 2 i = aZ H 2 i) → (∀ i, aZ H785 17 i = aZ H 17 i) → kpM H H785 → (0 ≤ v784.toInt ∧ v784.toInt ≤ 60) → (fZ H785 0 34).toInt ≤ v784.toInt → pmA H785 v784.toInt (fZ H785 0 34).toInt → (60 - v784.toInt).toNat < N → gG 3 zB_184 (mzBlk zB_184 1) [(0, .ref 0), (1, .int v784)] [] H785 0 0 (gRv (fun H' => gI SM H' ∧ JM H' ∧ fZ H' 0 2 = fZ H 0 2 ∧ fZ H' 0 0 = fZ H 0 0 ∧ (∀ i, aZ H' 2 i = aZ H 2 i) ∧ (∀ i, aZ H' 17 i = aZ H 17 i) ∧ kpM H H' ∧ pmA H' (aZ H' 2 2).toInt 60)) := by
    intro N
    induction N with
    | zero => intro v784 H785 hIH785 hJH785 e786 e787 m788 m789 m790 bv784 q1 q2 hmL791; exact absurd hmL791 (Nat.not_lt_zero _)
    | succ N ihL791 =>
      intro v784 H785 hIH785 hJH785 e786 e787 m788 m789 m790 bv784 q1 q2 hmL791
      obtain ⟨k792, ek792⟩ : ∃ z, z = fZ H785 0 34 := ⟨_, rfl⟩
      have ik792 : k792.toInt = (fZ H785 0 34).toInt := by rw [← ek792]
      have bk792 : 0 ≤ k792.toInt ∧ k792.toInt ≤ 60 := by rw [ek792]; exact fZ_of hIH785 sm_0 rfl
      refine g_iload_n rfl ?_
      refine g_aload_n rfl ?_
      refine g_invvi hIH785 sm_0 rfl rfl rfl rfl (s_181 H785 hIH785 (JM_n hJH785)) (fun v795 H793 r794 => ?_)
      obtain ⟨rfl, bv795, p796⟩ := r794
      refine g_if2_ge (fun c797 => ?_) (fun c797 => ?_)
      · exact g_ret ⟨rfl, hIH785, hJH785, (e786.symm.trans ek0_2), (e787.symm.trans ek0_0), m788, m789, m790, (pmA_le q2 (by first | with_reducible assumption | omega) (by first | with_reducible assumption | omega))⟩
      · refine g_aload_n rfl ?_
        refine g_gfr hIH785 sm_0 rfl ?_
        refine g_iload_n rfl ?_
        refine g_baload hIH785 sm_17 rfl (by first | with_reducible assumption | omega) (fun v798 ev798 lv798 uv798 => ?_)
        refine g_if_ne (fun c799 => ?_) (fun c799 => ?_)
        · refine g_aload_n rfl ?_
          refine g_gfk hIH785 sm_0 rfl ek792 ?_
          refine g_istore_n (l' := [(0, .ref 0), (1, .int v784), (2, .int k792)]) rfl rfl ?_
          refine g_nop ?_
          have L808 : ∀ (N : Nat) (v800 : Int32) (H801 : mzH), gI SM H801 → JM H801 → k0_2 = fZ H801 0 2 → k0_0 = fZ H801 0 0 → k792 = fZ H801 0 34 → (∀ i, aZ H801 2 i = aZ H 2 i) → (∀ i, aZ H801 17 i = aZ H 17 i) → kpM H H801 → (0 ≤ v800.toInt ∧ v800.toInt ≤ 60) → pmB H801 v784.toInt k792.toInt v800.toInt → v800.toInt ≤ k792.toInt → (v800.toInt - (0)).toNat < N → gG 3 zB_184 (mzBlk zB_184 3) [(0, .ref 0), (1, .int v784), (2, .int v800)] [] H801 0 0 (gRv (fun H' => gI SM H' ∧ JM H' ∧ fZ H' 0 2 = fZ H 0 2 ∧ fZ H' 0 0 = fZ H 0 0 ∧ (∀ i, aZ H' 2 i = aZ H 2 i) ∧ (∀ i, aZ H' 17 i = aZ H 17 i) ∧ kpM H H' ∧ pmA H' (aZ H' 2 2).toInt 60)) := by
            intro N
            induction N with
            | zero => intro v800 H801 hIH801 hJH801 e802 e803 e804 m805 m806 m807 bv800 q3 q4 hmL808; exact absurd hmL808 (Nat.not_lt_zero _)
            | succ N ihL808 =>
              intro v800 H801 hIH801 hJH801 e802 e803 e804 m805 m806 m807 bv800 q3 q4 hmL808
              refine g_iload_n rfl ?_
              refine g_if_le (fun c809 => ?_) (fun c809 => ?_)
              · refine g_aload_n rfl ?_
                refine g_gfr hIH801 sm_0 rfl ?_
                refine g_iload_n rfl ?_
                refine g_iload_n rfl ?_
                refine g_iastore hIH801 sm_19 (by first | with_reducible assumption | omega) (by first | with_reducible assumption | omega) (fun H810 eH810 hIH810 => ?_)
                have hJH810 : JM H810 := JM_sA (by decide) eH810 hJH801
                have e811 : k0_2 = fZ H810 0 2 := by rw [eH810, fZ_sA]; exact e802
                have e812 : k0_0 = fZ H810 0 0 := by rw [eH810, fZ_sA]; exact e803
                have e813 : k792 = fZ H810 0 34 := by rw [eH810, fZ_sA]; exact e804
                have m814 : ∀ i, aZ H810 2 i = aZ H 2 i := fun i => (by rw [eH810, aZ_sA_nc (by first | with_reducible assumption | omega)] : aZ H810 2 i = aZ H801 2 i).trans (m805 i)
                have m815 : ∀ i, aZ H810 17 i = aZ H 17 i := fun i => (by rw [eH810, aZ_sA_nc (by first | with_reducible assumption | omega)] : aZ H810 17 i = aZ H801 17 i).trans (m806 i)
                have m816 : kpM H H810 := kpM_A m807 eH810 (by first | with_reducible assumption | omega)
                have ie813 : k792.toInt = (fZ H810 0 34).toInt := by rw [← e813]
                refine g_aload_n rfl ?_
                refine g_dup rfl ?_
                refine g_gfk hIH810 sm_0 rfl e813 ?_
                refine g_iconst (by decide) (fun v817 kv817 => ?_)
                refine g_iadd (by first | with_reducible assumption | omega) (fun v818 ev818 => ?_)
                refine g_pfi hIH810 sm_0 rfl (by first | with_reducible assumption | omega) (fun H819 eH819 hIH819 => ?_)
                have hJH819 : JM H819 := JM_sF eH819 hJH810
                have e820 : k0_2 = fZ H819 0 2 := by rw [eH819, fZ_sF_ne (by decide)]; exact e811
                have e821 : k0_0 = fZ H819 0 0 := by rw [eH819, fZ_sF_ne (by decide)]; exact e812
                have e822 : v818 = fZ H819 0 34 := by rw [eH819, fZ_sF_eq hIH810 sm_0 rfl]
                have m823 : ∀ i, aZ H819 2 i = aZ H 2 i := fun i => (by rw [eH819, aZ_sF] : aZ H819 2 i = aZ H810 2 i).trans (m814 i)
                have m824 : ∀ i, aZ H819 17 i = aZ H 17 i := fun i => (by rw [eH819, aZ_sF] : aZ H819 17 i = aZ H810 17 i).trans (m815 i)
                have m825 : kpM H H819 := kpM_F m816 eH819 (by first | with_reducible assumption | omega)
                have ie822 : v818.toInt = (fZ H819 0 34).toInt := by rw [← e822]
                refine g_nop ?_
                refine g_iinc (l' := (fun v826 => [(0, .ref 0), (1, .int v826), (2, .int v800)])) rfl rfl (by decide) (by first | with_reducible assumption | omega) (fun _ => rfl) (fun v826 ev826 => ?_)
                refine g_goto ?_
                refine gG_pick [0, 1] (l' := [(0, .ref 0), (1, .int v826)]) rfl ?_
                exact ihL791 v826 H819 hIH819 hJH819 e820 e821 m823 m824 m825 (by first | with_reducible assumption | omega) (by first | with_reducible assumption | omega) (pmA_st hIH801 (by first | with_reducible assumption | omega) rfl eH810 (fun a i => by rw [eH819, aZ_sF]) q3 (by first | with_reducible assumption | omega) (by first | with_reducible assumption | omega)) (by first | with_reducible assumption | omega)
              · refine g_aload_n rfl ?_
                refine g_gfr hIH801 sm_0 rfl ?_
                refine g_aload_n rfl ?_
                refine g_gfr hIH801 sm_0 rfl ?_
                refine g_iload_n rfl ?_
                refine g_iconst (by decide) (fun v827 kv827 => ?_)
                refine g_isub (by first | with_reducible assumption | omega) (fun v828 ev828 => ?_)
                refine g_iaload hIH801 sm_19 rfl (by first | with_reducible assumption | omega) (fun v829 ev829 lv829 uv829 => ?_)
                refine g_iaload hIH801 sm_18 rfl (by first | with_reducible assumption | omega) (fun v830 ev830 lv830 uv830 => ?_)
                refine g_aload_n rfl ?_
                refine g_gfr hIH801 sm_0 rfl ?_
                refine g_iload_n rfl ?_
                refine g_iaload hIH801 sm_18 rfl (by first | with_reducible assumption | omega) (fun v831 ev831 lv831 uv831 => ?_)
                refine g_if2_le (fun c832 => ?_) (fun c832 => ?_)
                · refine g_aload_n rfl ?_
                  refine g_gfr hIH801 sm_0 rfl ?_
                  refine g_iload_n rfl ?_
                  refine g_iload_n rfl ?_
                  refine g_iastore hIH801 sm_19 (by first | with_reducible assumption | omega) (by first | with_reducible assumption | omega) (fun H833 eH833 hIH833 => ?_)
                  have hJH833 : JM H833 := JM_sA (by decide) eH833 hJH801
                  have e834 : k0_2 = fZ H833 0 2 := by rw [eH833, fZ_sA]; exact e802
                  have e835 : k0_0 = fZ H833 0 0 := by rw [eH833, fZ_sA]; exact e803
                  have e836 : k792 = fZ H833 0 34 := by rw [eH833, fZ_sA]; exact e804
                  have m837 : ∀ i, aZ H833 2 i = aZ H 2 i := fun i => (by rw [eH833, aZ_sA_nc (by first | with_reducible assumption | omega)] : aZ H833 2 i = aZ H801 2 i).trans (m805 i)
                  have m838 : ∀ i, aZ H833 17 i = aZ H 17 i := fun i => (by rw [eH833, aZ_sA_nc (by first | with_reducible assumption | omega)] : aZ H833 17 i = aZ H801 17 i).trans (m806 i)
                  have m839 : kpM H H833 := kpM_A m807 eH833 (by first | with_reducible assumption | omega)
                  have ie836 : k792.toInt = (fZ H833 0 34).toInt := by rw [← e836]
                  refine g_aload_n rfl ?_
                  refine g_dup rfl ?_
                  refine g_gfk hIH833 sm_0 rfl e836 ?_
                  refine g_iconst (by decide) (fun v840 kv840 => ?_)
                  refine g_iadd (by first | with_reducible assumption | omega) (fun v841 ev841 => ?_)
                  refine g_pfi hIH833 sm_0 rfl (by first | with_reducible assumption | omega) (fun H842 eH842 hIH842 => ?_)
                  have hJH842 : JM H842 := JM_sF eH842 hJH833
                  have e843 : k0_2 = fZ H842 0 2 := by rw [eH842, fZ_sF_ne (by decide)]; exact e834
                  have e844 : k0_0 = fZ H842 0 0 := by rw [eH842, fZ_sF_ne (by decide)]; exact e835
                  have e845 : v841 = fZ H842 0 34 := by rw [eH842, fZ_sF_eq hIH833 sm_0 rfl]
                  have m846 : ∀ i, aZ H842 2 i = aZ H 2 i := fun i => (by rw [eH842, aZ_sF] : aZ H842 2 i = aZ H833 2 i).trans (m837 i)
                  have m847 : ∀ i, aZ H842 17 i = aZ H 17 i := fun i => (by rw [eH842, aZ_sF] : aZ H842 17 i = aZ H833 17 i).trans (m838 i)
                  have m848 : kpM H H842 := kpM_F m839 eH842 (by first | with_reducible assumption | omega)
                  have ie845 : v841.toInt = (fZ H842 0 34).toInt := by rw [← e845]
                  refine g_nop ?_
                  refine g_iinc (l' := (fun v849 => [(0, .ref 0), (1, .int v849), (2, .int v800)])) rfl rfl (by decide) (by first | with_reducible assumption | omega) (fun _ => rfl) (fun v849 ev849 => ?_)
                  refine g_goto ?_
                  refine gG_pick [0, 1] (l' := [(0, .ref 0), (1, .int v849)]) rfl ?_
                  exact ihL791 v849 H842 hIH842 hJH842 e843 e844 m846 m847 m848 (by first | with_reducible assumption | omega) (by first | with_reducible assumption | omega) (pmA_st hIH801 (by first | with_reducible assumption | omega) rfl eH833 (fun a i => by rw [eH842, aZ_sF]) q3 (by first | with_reducible assumption | omega) (by first | with_reducible assumption | omega)) (by first | with_reducible assumption | omega)
                · refine g_aload_n rfl ?_
                  refine g_gfr hIH801 sm_0 rfl ?_
                  refine g_iload_n rfl ?_
                  refine g_aload_n rfl ?_
                  refine g_gfr hIH801 sm_0 rfl ?_
                  refine g_iload_n rfl ?_
                  refine g_iconst (by decide) (fun v850 kv850 => ?_)
                  refine g_isub (by first | with_reducible assumption | omega) (fun v851 ev851 => ?_)
                  refine g_iaload hIH801 sm_19 rfl (by first | with_reducible assumption | omega) (fun v852 ev852 lv852 uv852 => ?_)
                  refine g_iastore hIH801 sm_19 (by first | with_reducible assumption | omega) (by first | with_reducible assumption | omega) (fun H853 eH853 hIH853 => ?_)
                  have hJH853 : JM H853 := JM_sA (by decide) eH853 hJH801
                  have e854 : k0_2 = fZ H853 0 2 := by rw [eH853, fZ_sA]; exact e802
                  have e855 : k0_0 = fZ H853 0 0 := by rw [eH853, fZ_sA]; exact e803
                  have e856 : k792 = fZ H853 0 34 := by rw [eH853, fZ_sA]; exact e804
                  have m857 : ∀ i, aZ H853 2 i = aZ H 2 i := fun i => (by rw [eH853, aZ_sA_nc (by first | with_reducible assumption | omega)] : aZ H853 2 i = aZ H801 2 i).trans (m805 i)
                  have m858 : ∀ i, aZ H853 17 i = aZ H 17 i := fun i => (by rw [eH853, aZ_sA_nc (by first | with_reducible assumption | omega)] : aZ H853 17 i = aZ H801 17 i).trans (m806 i)
                  have m859 : kpM H H853 := kpM_A m807 eH853 (by first | with_reducible assumption | omega)
                  have ie856 : k792.toInt = (fZ H853 0 34).toInt := by rw [← e856]
                  refine g_iinc (l' := (fun v860 => [(0, .ref 0), (1, .int v784), (2, .int v860)])) rfl rfl (by decide) (by first | with_reducible assumption | omega) (fun _ => rfl) (fun v860 ev860 => ?_)
                  refine g_goto ?_
                  exact ihL808 v860 H853 hIH853 hJH853 e854 e855 e856 m857 m858 m859 (by first | with_reducible assumption | omega) (pmB_sh hIH801 (by first | with_reducible assumption | omega) (by first | with_reducible assumption | omega) ev852 eH853 q3 (by first | with_reducible assumption | omega)) (by first | with_reducible assumption | omega) (by first | with_reducible assumption | omega)
          exact L808 _ k792 H785 hIH785 hJH785 e786 e787 ek792 m788 m789 m790 (by first | with_reducible assumption | omega) (pmB_0 (by rw [ek792]; exact q2)) (by first | with_reducible assumption | omega) (Nat.lt_succ_self _)
        · refine g_goto ?_
          refine g_iinc (l' := (fun v861 => [(0, .ref 0), (1, .int v861)])) rfl rfl (by decide) (by first | with_reducible assumption | omega) (fun _ => rfl) (fun v861 ev861 => ?_)
          refine g_goto ?_
          exact ihL791 v861 H785 hIH785 hJH785 e786 e787 m788 m789 m790 (by first | with_reducible assumption | omega) (by first | with_reducible assumption | omega) (pmA_skip q2 (by first | with_reducible assumption | omega) (by first | with_reducible assumption | omega) (by rw [← ev798]; omega)) (by first | with_reducible assumption | omega)
  exact L791 _ v783 H776 hIH776 hJH776 e777 e778 m780 m781 m782 (by first | with_reducible assumption | omega) (by first | with_reducible assumption | omega) (pmA_0 (by first | with_reducible assumption | omega)) (Nat.lt_succ_self _)
set_option maxRecDepth 4000 in
set_option maxHeartbeats 4000000 in
/-- M.clears -/
theorem s_185 (H : mzH) (hI : gI SM H) (hJ : JN H) : gCall 185 [.ref 0] H (gRv (fun H' => gI SM H' ∧ JM H' ∧ fZ H' 0 2 = fZ H 0 2 ∧ fZ H' 0 0 = fZ H 0 0 ∧ (∀ i, aZ H' 2 i = aZ H 2 i) ∧ (∀ i, aZ H' 17 i = aZ H 17 i) ∧ kpM H H' ∧ pmA H' (aZ H' 2 2).toInt 60)) := by
  obtain ⟨k0_2, ek0_2⟩ : ∃ z, z = fZ H 0 2 := ⟨_, rfl⟩
  have ik0_2 : k0_2.toInt = (fZ H 0 2).toInt := by rw [← ek0_2]
  have bk0_2 : 0 ≤ k0_2.toInt ∧ k0_2.toInt ≤ 900 := by rw [ek0_2]; exact fZ_of hI sm_0 rfl
  obtain ⟨k0_0, ek0_0⟩ : ∃ z, z = fZ H 0 0 := ⟨_, rfl⟩
  have ik0_0 : k0_0.toInt = (fZ H 0 0).toInt := by rw [← ek0_0]
  have mk2 : ∀ i, aZ H 2 i = aZ H 2 i := fun _ => rfl
  have mk17 : ∀ i, aZ H 17 i = aZ H 17 i := fun _ => rfl
  have mkfr : kpM H H := kpM_r
  have mk3 : ∀ i, aZ H 3 i = aZ H 3 i := fun _ => rfl
  refine gG_call [(0, .ref 0)] ⟨rfl, trivial⟩ ?_
  show gG 2 zB_185 (mzBlk zB_185 0) [(0, .ref 0)] [] H 0 0 _
  refine g_iconst (by decide) (fun v605 kv605 => ?_)
  refine g_istore_n (l' := [(0, .ref 0), (1, .int v605)]) rfl rfl ?_
  refine g_nop ?_
  have L614 : ∀ (N : Nat) (v606 : Int32) (H607 : mzH), gI SM H607 → k0_2 = fZ H607 0 2 → k0_0 = fZ H607 0 0 → (∀ i, aZ H607 2 i = aZ H 2 i) → (∀ i, aZ H607 17 i = aZ H 17 i) → kpM H H607 → (∀ i, aZ H607 3 i = aZ H 3 i) → (0 ≤ v606.toInt ∧ v606.toInt ≤ 40) → (∀ q, q < v606.toInt.toNat → (aZ H607 9 q).toInt = -5) → (40 - v606.toInt).toNat < N → gG 2 zB_185 (mzBlk zB_185 1) [(0, .ref 0), (1, .int v606)] [] H607 0 0 (gRv (fun H' => gI SM H' ∧ JM H' ∧ fZ H' 0 2 = fZ H 0 2 ∧ fZ H' 0 0 = fZ H 0 0 ∧ (∀ i, aZ H' 2 i = aZ H 2 i) ∧ (∀ i, aZ H' 17 i = aZ H 17 i) ∧ kpM H H' ∧ pmA H' (aZ H' 2 2).toInt 60)) := by
    intro N
    induction N with
    | zero => intro v606 H607 hIH607 e608 e609 m610 m611 m612 m613 bv606 q1 hmL614; exact absurd hmL614 (Nat.not_lt_zero _)
    | succ N ihL614 =>
      intro v606 H607 hIH607 e608 e609 m610 m611 m612 m613 bv606 q1 hmL614
      refine g_iload_n rfl ?_
      refine g_bipush (by decide) (fun v615 kv615 => ?_)
      refine g_if2_ge (fun c616 => ?_) (fun c616 => ?_)
      · have hJ617 : JM H607 := JM_clr hJ (fun q hq => q1 q (by first | with_reducible assumption | omega)) m610 m613
        refine g_aload_n rfl ?_
        refine g_invvv hIH607 sm_0 rfl rfl rfl rfl (s_184 H607 hIH607 hJ617) (fun H618 r619 => ?_)
        obtain ⟨hIH618, hJH618, w620, w621, m622, m623, m624, p625⟩ := r619
        have e626 : k0_2 = fZ H618 0 2 := e608.trans w620.symm
        have e627 : k0_0 = fZ H618 0 0 := e609.trans w621.symm
        have m628 : ∀ i, aZ H618 2 i = aZ H 2 i := fun i => (m622 i).trans (m610 i)
        have m629 : ∀ i, aZ H618 17 i = aZ H 17 i := fun i => (m623 i).trans (m611 i)
        have m630 : kpM H H618 := kpM_t m612 m624
        exact g_ret ⟨rfl, hIH618, hJH618, (e626.symm.trans ek0_2), (e627.symm.trans ek0_0), m628, m629, m630, p625⟩
      · refine g_aload_n rfl ?_
        refine g_gfr hIH607 sm_0 rfl ?_
        refine g_iload_n rfl ?_
        refine g_iconst (by decide) (fun v631 kv631 => ?_)
        refine g_zastore hIH607 sm_7 (by first | with_reducible assumption | omega) (by first | with_reducible assumption | omega) (fun H632 eH632 hIH632 => ?_)
        have e633 : k0_2 = fZ H632 0 2 := by rw [eH632, fZ_sA]; exact e608
        have e634 : k0_0 = fZ H632 0 0 := by rw [eH632, fZ_sA]; exact e609
        have m635 : ∀ i, aZ H632 2 i = aZ H 2 i := fun i => (by rw [eH632, aZ_sA_nc (by first | with_reducible assumption | omega)] : aZ H632 2 i = aZ H607 2 i).trans (m610 i)
        have m636 : ∀ i, aZ H632 17 i = aZ H 17 i := fun i => (by rw [eH632, aZ_sA_nc (by first | with_reducible assumption | omega)] : aZ H632 17 i = aZ H607 17 i).trans (m611 i)
        have m637 : kpM H H632 := kpM_A m612 eH632 (by first | with_reducible assumption | omega)
        have m638 : ∀ i, aZ H632 3 i = aZ H 3 i := fun i => (by rw [eH632, aZ_sA_nc (by first | with_reducible assumption | omega)] : aZ H632 3 i = aZ H607 3 i).trans (m613 i)
        refine g_aload_n rfl ?_
        refine g_gfr hIH632 sm_0 rfl ?_
        refine g_iload_n rfl ?_
        refine g_bipush (by decide) (fun v639 kv639 => ?_)
        refine g_iastore hIH632 sm_9 (by first | with_reducible assumption | omega) (by first | with_reducible assumption | omega) (fun H640 eH640 hIH640 => ?_)
        have e641 : k0_2 = fZ H640 0 2 := by rw [eH640, fZ_sA]; exact e633
        have e642 : k0_0 = fZ H640 0 0 := by rw [eH640, fZ_sA]; exact e634
        have m643 : ∀ i, aZ H640 2 i = aZ H 2 i := fun i => (by rw [eH640, aZ_sA_nc (by first | with_reducible assumption | omega)] : aZ H640 2 i = aZ H632 2 i).trans (m635 i)
        have m644 : ∀ i, aZ H640 17 i = aZ H 17 i := fun i => (by rw [eH640, aZ_sA_nc (by first | with_reducible assumption | omega)] : aZ H640 17 i = aZ H632 17 i).trans (m636 i)
        have m645 : kpM H H640 := kpM_A m637 eH640 (by first | with_reducible assumption | omega)
        have m646 : ∀ i, aZ H640 3 i = aZ H 3 i := fun i => (by rw [eH640, aZ_sA_nc (by first | with_reducible assumption | omega)] : aZ H640 3 i = aZ H632 3 i).trans (m638 i)
        refine g_aload_n rfl ?_
        refine g_gfr hIH640 sm_0 rfl ?_
        refine g_iload_n rfl ?_
        refine g_bipush (by decide) (fun v647 kv647 => ?_)
        refine g_iastore hIH640 sm_12 (by first | with_reducible assumption | omega) (gz_any _) (fun H648 eH648 hIH648 => ?_)
        have e649 : k0_2 = fZ H648 0 2 := by rw [eH648, fZ_sA]; exact e641
        have e650 : k0_0 = fZ H648 0 0 := by rw [eH648, fZ_sA]; exact e642
        have m651 : ∀ i, aZ H648 2 i = aZ H 2 i := fun i => (by rw [eH648, aZ_sA_nc (by first | with_reducible assumption | omega)] : aZ H648 2 i = aZ H640 2 i).trans (m643 i)
        have m652 : ∀ i, aZ H648 17 i = aZ H 17 i := fun i => (by rw [eH648, aZ_sA_nc (by first | with_reducible assumption | omega)] : aZ H648 17 i = aZ H640 17 i).trans (m644 i)
        have m653 : kpM H H648 := kpM_A m645 eH648 (by first | with_reducible assumption | omega)
        have m654 : ∀ i, aZ H648 3 i = aZ H 3 i := fun i => (by rw [eH648, aZ_sA_nc (by first | with_reducible assumption | omega)] : aZ H648 3 i = aZ H640 3 i).trans (m646 i)
        refine g_aload_n rfl ?_
        refine g_gfr hIH648 sm_0 rfl ?_
        refine g_iload_n rfl ?_
        refine g_iconst (by decide) (fun v655 kv655 => ?_)
        refine g_zastore hIH648 sm_13 (by first | with_reducible assumption | omega) (by first | with_reducible assumption | omega) (fun H656 eH656 hIH656 => ?_)
        have e657 : k0_2 = fZ H656 0 2 := by rw [eH656, fZ_sA]; exact e649
        have e658 : k0_0 = fZ H656 0 0 := by rw [eH656, fZ_sA]; exact e650
        have m659 : ∀ i, aZ H656 2 i = aZ H 2 i := fun i => (by rw [eH656, aZ_sA_nc (by first | with_reducible assumption | omega)] : aZ H656 2 i = aZ H648 2 i).trans (m651 i)
        have m660 : ∀ i, aZ H656 17 i = aZ H 17 i := fun i => (by rw [eH656, aZ_sA_nc (by first | with_reducible assumption | omega)] : aZ H656 17 i = aZ H648 17 i).trans (m652 i)
        have m661 : kpM H H656 := kpM_A m653 eH656 (by first | with_reducible assumption | omega)
        have m662 : ∀ i, aZ H656 3 i = aZ H 3 i := fun i => (by rw [eH656, aZ_sA_nc (by first | with_reducible assumption | omega)] : aZ H656 3 i = aZ H648 3 i).trans (m654 i)
        refine g_aload_n rfl ?_
        refine g_gfr hIH656 sm_0 rfl ?_
        refine g_iload_n rfl ?_
        refine g_iconst (by decide) (fun v663 kv663 => ?_)
        refine g_zastore hIH656 sm_14 (by first | with_reducible assumption | omega) (by first | with_reducible assumption | omega) (fun H664 eH664 hIH664 => ?_)
        have e665 : k0_2 = fZ H664 0 2 := by rw [eH664, fZ_sA]; exact e657
        have e666 : k0_0 = fZ H664 0 0 := by rw [eH664, fZ_sA]; exact e658
        have m667 : ∀ i, aZ H664 2 i = aZ H 2 i := fun i => (by rw [eH664, aZ_sA_nc (by first | with_reducible assumption | omega)] : aZ H664 2 i = aZ H656 2 i).trans (m659 i)
        have m668 : ∀ i, aZ H664 17 i = aZ H 17 i := fun i => (by rw [eH664, aZ_sA_nc (by first | with_reducible assumption | omega)] : aZ H664 17 i = aZ H656 17 i).trans (m660 i)
        have m669 : kpM H H664 := kpM_A m661 eH664 (by first | with_reducible assumption | omega)
        have m670 : ∀ i, aZ H664 3 i = aZ H 3 i := fun i => (by rw [eH664, aZ_sA_nc (by first | with_reducible assumption | omega)] : aZ H664 3 i = aZ H656 3 i).trans (m662 i)
        refine g_aload_n rfl ?_
        refine g_gfr hIH664 sm_0 rfl ?_
        refine g_iload_n rfl ?_
        refine g_iconst (by decide) (fun v671 kv671 => ?_)
        refine g_zastore hIH664 sm_15 (by first | with_reducible assumption | omega) (by first | with_reducible assumption | omega) (fun H672 eH672 hIH672 => ?_)
        have e673 : k0_2 = fZ H672 0 2 := by rw [eH672, fZ_sA]; exact e665
        have e674 : k0_0 = fZ H672 0 0 := by rw [eH672, fZ_sA]; exact e666
        have m675 : ∀ i, aZ H672 2 i = aZ H 2 i := fun i => (by rw [eH672, aZ_sA_nc (by first | with_reducible assumption | omega)] : aZ H672 2 i = aZ H664 2 i).trans (m667 i)
        have m676 : ∀ i, aZ H672 17 i = aZ H 17 i := fun i => (by rw [eH672, aZ_sA_nc (by first | with_reducible assumption | omega)] : aZ H672 17 i = aZ H664 17 i).trans (m668 i)
        have m677 : kpM H H672 := kpM_A m669 eH672 (by first | with_reducible assumption | omega)
        have m678 : ∀ i, aZ H672 3 i = aZ H 3 i := fun i => (by rw [eH672, aZ_sA_nc (by first | with_reducible assumption | omega)] : aZ H672 3 i = aZ H664 3 i).trans (m670 i)
        refine g_aload_n rfl ?_
        refine g_gfr hIH672 sm_0 rfl ?_
        refine g_iload_n rfl ?_
        refine g_iconst (by decide) (fun v679 kv679 => ?_)
        refine g_zastore hIH672 sm_16 (by first | with_reducible assumption | omega) (by first | with_reducible assumption | omega) (fun H680 eH680 hIH680 => ?_)
        have e681 : k0_2 = fZ H680 0 2 := by rw [eH680, fZ_sA]; exact e673
        have e682 : k0_0 = fZ H680 0 0 := by rw [eH680, fZ_sA]; exact e674
        have m683 : ∀ i, aZ H680 2 i = aZ H 2 i := fun i => (by rw [eH680, aZ_sA_nc (by first | with_reducible assumption | omega)] : aZ H680 2 i = aZ H672 2 i).trans (m675 i)
        have m684 : ∀ i, aZ H680 17 i = aZ H 17 i := fun i => (by rw [eH680, aZ_sA_nc (by first | with_reducible assumption | omega)] : aZ H680 17 i = aZ H672 17 i).trans (m676 i)
        have m685 : kpM H H680 := kpM_A m677 eH680 (by first | with_reducible assumption | omega)
        have m686 : ∀ i, aZ H680 3 i = aZ H 3 i := fun i => (by rw [eH680, aZ_sA_nc (by first | with_reducible assumption | omega)] : aZ H680 3 i = aZ H672 3 i).trans (m678 i)
        refine g_iinc (l' := (fun v687 => [(0, .ref 0), (1, .int v687)])) rfl rfl (by decide) (by first | with_reducible assumption | omega) (fun _ => rfl) (fun v687 ev687 => ?_)
        refine g_goto ?_
        exact ihL614 v687 H680 hIH680 e681 e682 m683 m684 m685 m686 (by first | with_reducible assumption | omega) (fun q hq => by rw [eH680, aZ_sA_nc (by decide), eH672, aZ_sA_nc (by decide), eH664, aZ_sA_nc (by decide), eH656, aZ_sA_nc (by decide), eH648, aZ_sA_nc (by decide), eH640]; if e : v606.toInt.toNat = q then (subst e; rw [aZ_sA_eq hIH632 sm_9 (by first | with_reducible assumption | omega)]; omega) else (rw [aZ_sA_ne e, eH632, aZ_sA_nc (by decide)]; exact q1 q (by first | with_reducible assumption | omega))) (by first | with_reducible assumption | omega)
  exact L614 _ v605 H hI ek0_2 ek0_0 mk2 mk17 mkfr mk3 (by first | with_reducible assumption | omega) (fun q hq => absurd hq (by first | with_reducible assumption | omega)) (Nat.lt_succ_self _)
set_option maxRecDepth 4000 in
set_option maxHeartbeats 4000000 in
/-- M.topOf -/
theorem s_186 (a1 : Int32) (ha1 : 0 ≤ a1.toInt ∧ a1.toInt ≤ 39) (H : mzH) (hI : gI SM H) (hJ : JM H) : gCall 186 [.ref 0, .int a1] H (gRi (fun v H' => H = H' ∧ (0 ≤ v.toInt ∧ v.toInt ≤ 39))) := by
  refine gG_call [(0, .ref 0), (1, .int a1)] ⟨rfl, rfl, trivial⟩ ?_
  show gG 3 zB_186 (mzBlk zB_186 0) [(0, .ref 0), (1, .int a1)] [] H 0 0 _
  refine g_iload_n rfl ?_
  refine g_istore_n (l' := [(0, .ref 0), (1, .int a1), (2, .int a1)]) rfl rfl ?_
  refine g_nop ?_
  have L22 : ∀ (N : Nat) (v21 : Int32), (0 ≤ v21.toInt ∧ v21.toInt ≤ 39) → mK H v21 < N → gG 3 zB_186 (mzBlk zB_186 1) [(0, .ref 0), (1, .int a1), (2, .int v21)] [] H 0 0 (gRi (fun v H' => H = H' ∧ (0 ≤ v.toInt ∧ v.toInt ≤ 39))) := by
    intro N
    induction N with
    | zero => intro v21 bv21 hmL22; exact absurd hmL22 (Nat.not_lt_zero _)
    | succ N ihL22 =>
      intro v21 bv21 hmL22
      refine g_aload_n rfl ?_
      refine g_gfr hI sm_0 rfl ?_
      refine g_iload_n rfl ?_
      refine g_iaload hI sm_9 rfl (by first | with_reducible assumption | omega) (fun v23 ev23 lv23 uv23 => ?_)
      have qv23 := JM_in hJ (by first | with_reducible assumption | omega) ev23
      refine g_bipush (by decide) (fun v24 kv24 => ?_)
      refine g_if2_eq (fun c25 => ?_) (fun c25 => ?_)
      · refine g_iload_n rfl ?_
        exact g_iret ⟨_, rfl, rfl, (by first | with_reducible assumption | omega)⟩
      · refine g_aload_n rfl ?_
        refine g_gfr hI sm_0 rfl ?_
        refine g_iload_n rfl ?_
        refine g_ialoadk hI sm_9 rfl (by first | with_reducible assumption | omega) ev23 ?_
        refine g_istore_n (l' := [(0, .ref 0), (1, .int a1), (2, .int v23)]) rfl rfl ?_
        refine g_goto ?_
        exact ihL22 v23 (by first | with_reducible assumption | omega) (mK_up hI hJ (by first | with_reducible assumption | omega) ev23 hmL22)
  exact L22 _ a1 (by first | with_reducible assumption | omega) (Nat.lt_succ_self _)
set_option maxRecDepth 4000 in
set_option maxHeartbeats 4000000 in
/-- M.isWithin -/
theorem s_187 (a1 : Int32) (ha1 : 0 ≤ a1.toInt ∧ a1.toInt ≤ 39) (a2 : Int32) (H : mzH) (hI : gI SM H) (hJ : JM H) : gCall 187 [.ref 0, .int a1, .int a2] H (gRi (fun v H' => H = H' ∧ (0 ≤ v.toInt ∧ v.toInt ≤ 1))) := by
  refine gG_call [(0, .ref 0), (1, .int a1), (2, .int a2)] ⟨rfl, rfl, rfl, trivial⟩ ?_
  show gG 4 zB_187 (mzBlk zB_187 0) [(0, .ref 0), (1, .int a1), (2, .int a2)] [] H 0 0 _
  refine g_aload_n rfl ?_
  refine g_gfr hI sm_0 rfl ?_
  refine g_iload_n rfl ?_
  refine g_iaload hI sm_9 rfl (by first | with_reducible assumption | omega) (fun v57 ev57 lv57 uv57 => ?_)
  have qv57 := JM_in hJ (by first | with_reducible assumption | omega) ev57
  refine g_istore_n (l' := [(0, .ref 0), (1, .int a1), (2, .int a2), (3, .int v57)]) rfl rfl ?_
  refine g_nop ?_
  have L59 : ∀ (N : Nat) (v58 : Int32), (-5 ≤ v58.toInt ∧ v58.toInt ≤ 39) → (v58.toInt = -5 ∨ 0 ≤ v58.toInt) → mK H v58 < N → gG 4 zB_187 (mzBlk zB_187 1) [(0, .ref 0), (1, .int a1), (2, .int a2), (3, .int v58)] [] H 0 0 (gRi (fun v H' => H = H' ∧ (0 ≤ v.toInt ∧ v.toInt ≤ 1))) := by
    intro N
    induction N with
    | zero => intro v58 bv58 q1 hmL59; exact absurd hmL59 (Nat.not_lt_zero _)
    | succ N ihL59 =>
      intro v58 bv58 q1 hmL59
      refine g_iload_n rfl ?_
      refine g_bipush (by decide) (fun v60 kv60 => ?_)
      refine g_if2_eq (fun c61 => ?_) (fun c61 => ?_)
      · refine g_iload_n rfl ?_
        refine g_iload_n rfl ?_
        refine g_if2_ne (fun c62 => ?_) (fun c62 => ?_)
        · refine g_iconst (by decide) (fun v63 kv63 => ?_)
          refine g_nop ?_
          exact g_zret (by first | with_reducible assumption | omega) ⟨_, rfl, rfl, (by first | with_reducible assumption | omega)⟩
        · refine g_iconst (by decide) (fun v64 kv64 => ?_)
          refine g_goto ?_
          exact g_zret (by first | with_reducible assumption | omega) ⟨_, rfl, rfl, (by first | with_reducible assumption | omega)⟩
      · refine g_iload_n rfl ?_
        refine g_iload_n rfl ?_
        refine g_if2_eq (fun c65 => ?_) (fun c65 => ?_)
        · refine g_iload_n rfl ?_
          refine g_iload_n rfl ?_
          refine g_if2_ne (fun c66 => ?_) (fun c66 => ?_)
          · refine g_iconst (by decide) (fun v67 kv67 => ?_)
            refine g_nop ?_
            exact g_zret (by first | with_reducible assumption | omega) ⟨_, rfl, rfl, (by first | with_reducible assumption | omega)⟩
          · refine g_iconst (by decide) (fun v68 kv68 => ?_)
            refine g_goto ?_
            exact g_zret (by first | with_reducible assumption | omega) ⟨_, rfl, rfl, (by first | with_reducible assumption | omega)⟩
        · refine g_aload_n rfl ?_
          refine g_gfr hI sm_0 rfl ?_
          refine g_iload_n rfl ?_
          refine g_iaload hI sm_9 rfl (by first | with_reducible assumption | omega) (fun v69 ev69 lv69 uv69 => ?_)
          have qv69 := JM_in hJ (by first | with_reducible assumption | omega) ev69
          refine g_istore_n (l' := [(0, .ref 0), (1, .int a1), (2, .int a2), (3, .int v69)]) rfl rfl ?_
          refine g_goto ?_
          exact ihL59 v69 (by first | with_reducible assumption | omega) (by first | with_reducible assumption | omega) (mK_up hI hJ (by first | with_reducible assumption | omega) ev69 hmL59)
  exact L59 _ v57 (by first | with_reducible assumption | omega) (by first | with_reducible assumption | omega) (Nat.lt_succ_self _)
set_option maxRecDepth 4000 in
set_option maxHeartbeats 4000000 in
/-- M.isHeld -/
theorem s_188 (a1 : Int32) (H : mzH) (hI : gI SM H) (hJ : JM H) : gCall 188 [.ref 0, .int a1] H (gRi (fun v H' => H = H' ∧ (0 ≤ v.toInt ∧ v.toInt ≤ 1))) := by
  refine gG_call [(0, .ref 0), (1, .int a1)] ⟨rfl, rfl, trivial⟩ ?_
  show gG 3 zB_188 (mzBlk zB_188 0) [(0, .ref 0), (1, .int a1)] [] H 0 0 _
  refine g_iconst (by decide) (fun v189 kv189 => ?_)
  refine g_istore_n (l' := [(0, .ref 0), (1, .int a1), (2, .int v189)]) rfl rfl ?_
  refine g_nop ?_
  have L191 : ∀ (N : Nat) (v190 : Int32), (0 ≤ v190.toInt ∧ v190.toInt ≤ 40) → (40 - v190.toInt).toNat < N → gG 3 zB_188 (mzBlk zB_188 1) [(0, .ref 0), (1, .int a1), (2, .int v190)] [] H 0 0 (gRi (fun v H' => H = H' ∧ (0 ≤ v.toInt ∧ v.toInt ≤ 1))) := by
    intro N
    induction N with
    | zero => intro v190 bv190 hmL191; exact absurd hmL191 (Nat.not_lt_zero _)
    | succ N ihL191 =>
      intro v190 bv190 hmL191
      refine g_iload_n rfl ?_
      refine g_bipush (by decide) (fun v192 kv192 => ?_)
      refine g_if2_ge (fun c193 => ?_) (fun c193 => ?_)
      · refine g_iconst (by decide) (fun v194 kv194 => ?_)
        exact g_zret (by first | with_reducible assumption | omega) ⟨_, rfl, rfl, (by first | with_reducible assumption | omega)⟩
      · refine g_aload_n rfl ?_
        refine g_gfr hI sm_0 rfl ?_
        refine g_iload_n rfl ?_
        refine g_baload hI sm_14 rfl (by first | with_reducible assumption | omega) (fun v195 ev195 lv195 uv195 => ?_)
        refine g_if_eq (fun c196 => ?_) (fun c196 => ?_)
        · refine g_iinc (l' := (fun v197 => [(0, .ref 0), (1, .int a1), (2, .int v197)])) rfl rfl (by decide) (by first | with_reducible assumption | omega) (fun _ => rfl) (fun v197 ev197 => ?_)
          refine g_goto ?_
          exact ihL191 v197 (by first | with_reducible assumption | omega) (by first | with_reducible assumption | omega)
        · refine g_iload_n rfl ?_
          refine g_iload_n rfl ?_
          refine g_if2_eq (fun c198 => ?_) (fun c198 => ?_)
          · refine g_iconst (by decide) (fun v199 kv199 => ?_)
            exact g_zret (by first | with_reducible assumption | omega) ⟨_, rfl, rfl, (by first | with_reducible assumption | omega)⟩
          · refine g_aload_n rfl ?_
            refine g_iload_n rfl ?_
            refine g_iload_n rfl ?_
            refine g_invvi hI sm_0 rfl rfl rfl rfl (s_187 v190 (by first | with_reducible assumption | omega) a1 H hI hJ) (fun v202 H200 r201 => ?_)
            obtain ⟨rfl, bv202⟩ := r201
            refine g_if_eq (fun c203 => ?_) (fun c203 => ?_)
            · refine g_iinc (l' := (fun v204 => [(0, .ref 0), (1, .int a1), (2, .int v204)])) rfl rfl (by decide) (by first | with_reducible assumption | omega) (fun _ => rfl) (fun v204 ev204 => ?_)
              refine g_goto ?_
              exact ihL191 v204 (by first | with_reducible assumption | omega) (by first | with_reducible assumption | omega)
            · refine g_nop ?_
              refine g_iconst (by decide) (fun v205 kv205 => ?_)
              exact g_zret (by first | with_reducible assumption | omega) ⟨_, rfl, rfl, (by first | with_reducible assumption | omega)⟩
  exact L191 _ v189 (by first | with_reducible assumption | omega) (Nat.lt_succ_self _)
set_option maxRecDepth 4000 in
set_option maxHeartbeats 4000000 in
/-- M.manyIn -/
theorem s_189 (a1 : Int32) (H : mzH) (hI : gI SM H) (hJ : JN H) : gCall 189 [.ref 0, .int a1] H (gRi (fun v H' => H = H')) := by
  refine gG_call [(0, .ref 0), (1, .int a1)] ⟨rfl, rfl, trivial⟩ ?_
  show gG 4 zB_189 (mzBlk zB_189 0) [(0, .ref 0), (1, .int a1)] [] H 0 0 _
  refine g_iconst (by decide) (fun v399 kv399 => ?_)
  refine g_istore_n (l' := [(0, .ref 0), (1, .int a1), (2, .int v399)]) rfl rfl ?_
  refine g_iconst (by decide) (fun v400 kv400 => ?_)
  refine g_istore_n (l' := [(0, .ref 0), (1, .int a1), (2, .int v399), (3, .int v400)]) rfl rfl ?_
  refine g_nop ?_
  have L403 : ∀ (N : Nat) (v401 : Int32) (v402 : Int32), (0 ≤ v402.toInt ∧ v402.toInt ≤ 40) → (40 - v402.toInt).toNat < N → gG 4 zB_189 (mzBlk zB_189 1) [(0, .ref 0), (1, .int a1), (2, .int v401), (3, .int v402)] [] H 0 0 (gRi (fun v H' => H = H')) := by
    intro N
    induction N with
    | zero => intro v401 v402 bv402 hmL403; exact absurd hmL403 (Nat.not_lt_zero _)
    | succ N ihL403 =>
      intro v401 v402 bv402 hmL403
      refine g_iload_n rfl ?_
      refine g_bipush (by decide) (fun v404 kv404 => ?_)
      refine g_if2_ge (fun c405 => ?_) (fun c405 => ?_)
      · refine g_iload_n rfl ?_
        exact g_iret ⟨_, rfl, rfl⟩
      · refine g_iload_n rfl ?_
        refine g_aload_n rfl ?_
        refine g_gfr hI sm_0 rfl ?_
        refine g_iload_n rfl ?_
        refine g_iaload hI sm_9 rfl (by first | with_reducible assumption | omega) (fun v406 ev406 lv406 uv406 => ?_)
        refine g_iload_n rfl ?_
        refine g_if2_ne (fun c407 => ?_) (fun c407 => ?_)
        · refine g_iconst (by decide) (fun v408 kv408 => ?_)
          refine g_nop ?_
          refine g_iadd (by have := gz_any v401; omega) (fun v409 ev409 => ?_)
          refine g_istore_n (l' := [(0, .ref 0), (1, .int a1), (2, .int v409), (3, .int v402)]) rfl rfl ?_
          refine g_iinc (l' := (fun v410 => [(0, .ref 0), (1, .int a1), (2, .int v409), (3, .int v410)])) rfl rfl (by decide) (by first | with_reducible assumption | omega) (fun _ => rfl) (fun v410 ev410 => ?_)
          refine g_goto ?_
          exact ihL403 v409 v410 (by first | with_reducible assumption | omega) (by first | with_reducible assumption | omega)
        · refine g_iconst (by decide) (fun v411 kv411 => ?_)
          refine g_goto ?_
          refine g_iadd' (fun v412 ov412 => ?_)
          refine g_istore_n (l' := [(0, .ref 0), (1, .int a1), (2, .int v412), (3, .int v402)]) rfl rfl ?_
          refine g_iinc (l' := (fun v413 => [(0, .ref 0), (1, .int a1), (2, .int v412), (3, .int v413)])) rfl rfl (by decide) (by first | with_reducible assumption | omega) (fun _ => rfl) (fun v413 ev413 => ?_)
          refine g_goto ?_
          exact ihL403 v412 v413 (by first | with_reducible assumption | omega) (by first | with_reducible assumption | omega)
  exact L403 _ v399 v400 (by first | with_reducible assumption | omega) (Nat.lt_succ_self _)
set_option maxRecDepth 4000 in
set_option maxHeartbeats 4000000 in
/-- M.isSoon -/
theorem s_190 (a1 : Int32) (ha1 : 0 ≤ a1.toInt ∧ a1.toInt ≤ 39) (a2 : Int32) (ha2 : 0 ≤ a2.toInt ∧ a2.toInt ≤ 7) (a3 : Int32) (H : mzH) (hI : gI SM H) (hJ : JM H) : gCall 190 [.ref 0, .int a1, .int a2, .int a3] H (gRi (fun v H' => H = H' ∧ (0 ≤ v.toInt ∧ v.toInt ≤ 1))) := by
  refine gG_call [(0, .ref 0), (1, .int a1), (2, .int a2), (3, .int a3)] ⟨rfl, rfl, rfl, rfl, trivial⟩ ?_
  show gG 5 zB_190 (mzBlk zB_190 0) [(0, .ref 0), (1, .int a1), (2, .int a2), (3, .int a3)] [] H 0 0 _
  refine g_aload_n rfl ?_
  refine g_iload_n rfl ?_
  refine g_invvi hI sm_0 rfl rfl rfl rfl (s_186 a1 (by first | with_reducible assumption | omega) H hI hJ) (fun v63 H61 r62 => ?_)
  obtain ⟨rfl, bv63⟩ := r62
  refine g_istore (l' := [(0, .ref 0), (1, .int a1), (2, .int a2), (3, .int a3), (4, .int v63)]) rfl rfl ?_
  refine g_aload_n rfl ?_
  refine g_gfr hI sm_0 rfl ?_
  refine g_iload rfl ?_
  refine g_iaload hI sm_10 rfl (by first | with_reducible assumption | omega) (fun v64 ev64 lv64 uv64 => ?_)
  refine g_iload_n rfl ?_
  refine g_if2_eq (fun c65 => ?_) (fun c65 => ?_)
  · refine g_iconst (by decide) (fun v66 kv66 => ?_)
    refine g_nop ?_
    exact g_zret (by first | with_reducible assumption | omega) ⟨_, rfl, rfl, (by first | with_reducible assumption | omega)⟩
  · refine g_iload_n rfl ?_
    refine g_aload_n rfl ?_
    refine g_gfr hI sm_0 rfl ?_
    refine g_iload rfl ?_
    refine g_iaload hI sm_11 rfl (by first | with_reducible assumption | omega) (fun v67 ev67 lv67 uv67 => ?_)
    refine g_isub' (fun v68 ov68 => ?_)
    refine g_aload_n rfl ?_
    refine g_gfr hI sm_0 rfl ?_
    refine g_bipush (by decide) (fun v69 kv69 => ?_)
    refine g_aload_n rfl ?_
    refine g_gfr hI sm_0 rfl ?_
    refine g_iload rfl ?_
    refine g_ialoadk hI sm_10 rfl (by first | with_reducible assumption | omega) ev64 ?_
    refine g_imulk' (n := 8) kv69 (by first | with_reducible assumption | omega) (fun v70 ev70 => ?_)
    refine g_iload_n rfl ?_
    refine g_iadd (by first | with_reducible assumption | omega) (fun v71 ev71 => ?_)
    refine g_iaload hI sm_6 rfl (by first | with_reducible assumption | omega) (fun v72 ev72 lv72 uv72 => ?_)
    refine g_if2_ge (fun c73 => ?_) (fun c73 => ?_)
    · refine g_iconst (by decide) (fun v74 kv74 => ?_)
      refine g_nop ?_
      exact g_zret (by first | with_reducible assumption | omega) ⟨_, rfl, rfl, (by first | with_reducible assumption | omega)⟩
    · refine g_iconst (by decide) (fun v75 kv75 => ?_)
      refine g_goto ?_
      exact g_zret (by first | with_reducible assumption | omega) ⟨_, rfl, rfl, (by first | with_reducible assumption | omega)⟩
set_option maxRecDepth 4000 in
set_option maxHeartbeats 4000000 in
/-- M.isOneOf -/
theorem s_191 (a1 : Int32) (a2 : Int32) (a3 : Int32) (a4 : Int32) (H : mzH) (hI : gI SM H) (hJ : JN H) : gCall 191 [.ref 0, .int a1, .int a2, .int a3, .int a4] H (gRi (fun v H' => H = H' ∧ (0 ≤ v.toInt ∧ v.toInt ≤ 1))) := by
  refine gG_call [(0, .ref 0), (1, .int a1), (2, .int a2), (3, .int a3), (4, .int a4)] ⟨rfl, rfl, rfl, rfl, rfl, trivial⟩ ?_
  show gG 5 zB_191 (mzBlk zB_191 0) [(0, .ref 0), (1, .int a1), (2, .int a2), (3, .int a3), (4, .int a4)] [] H 0 0 _
  refine g_iload_n rfl ?_
  refine g_iload_n rfl ?_
  refine g_if2_eq (fun c29 => ?_) (fun c29 => ?_)
  · refine g_iconst (by decide) (fun v30 kv30 => ?_)
    refine g_goto ?_
    exact g_zret (by first | with_reducible assumption | omega) ⟨_, rfl, rfl, (by first | with_reducible assumption | omega)⟩
  · refine g_iload_n rfl ?_
    refine g_iload_n rfl ?_
    refine g_if2_eq (fun c31 => ?_) (fun c31 => ?_)
    · refine g_iconst (by decide) (fun v32 kv32 => ?_)
      refine g_goto ?_
      exact g_zret (by first | with_reducible assumption | omega) ⟨_, rfl, rfl, (by first | with_reducible assumption | omega)⟩
    · refine g_iload_n rfl ?_
      refine g_iload rfl ?_
      refine g_if2_ne (fun c33 => ?_) (fun c33 => ?_)
      · refine g_iconst (by decide) (fun v34 kv34 => ?_)
        refine g_nop ?_
        exact g_zret (by first | with_reducible assumption | omega) ⟨_, rfl, rfl, (by first | with_reducible assumption | omega)⟩
      · refine g_nop ?_
        refine g_iconst (by decide) (fun v35 kv35 => ?_)
        refine g_goto ?_
        exact g_zret (by first | with_reducible assumption | omega) ⟨_, rfl, rfl, (by first | with_reducible assumption | omega)⟩
set_option maxRecDepth 4000 in
set_option maxHeartbeats 4000000 in
/-- M.reason -/
theorem s_192 (a1 : Int32) (ha1 : 0 ≤ a1.toInt ∧ a1.toInt ≤ 59) (H : mzH) (hI : gI SM H) (hJ : JM H) : gCall 192 [.ref 0, .int a1] H (gRi (fun v H' => H = H' ∧ (∀ w n o : Int32, w = aZ H 2 (69 + 5 * a1.toInt + 1).toNat → n = aZ H 2 (69 + 5 * a1.toInt + 2).toNat → o = aZ H 2 (69 + 5 * a1.toInt + 3).toNat → v.toInt = 0 → RS H w n o))) := by
  refine gG_call [(0, .ref 0), (1, .int a1)] ⟨rfl, rfl, trivial⟩ ?_
  show gG 7 zB_192 (mzBlk zB_192 0) [(0, .ref 0), (1, .int a1)] [] H 0 0 _
  refine g_aload_n rfl ?_
  refine g_iload_n rfl ?_
  refine g_iconst (by decide) (fun v1861 kv1861 => ?_)
  refine g_invvi hI sm_0 rfl rfl rfl rfl (s_182 a1 (by first | with_reducible assumption | omega) v1861 (by first | with_reducible assumption | omega) H hI (JM_n hJ)) (fun v1864 H1862 r1863 => ?_)
  obtain ⟨rfl, p1865⟩ := r1863
  have tv1864 : v1864 = aZ H 2 (69 + 5 * a1.toInt + 1).toNat := by rw [p1865, kv1861]
  have qv1864 := JN_w1 (JM_n hJ) (by first | with_reducible assumption | omega) tv1864
  refine g_istore_n (l' := [(0, .ref 0), (1, .int a1), (2, .int v1864)]) rfl rfl ?_
  refine g_aload_n rfl ?_
  refine g_iload_n rfl ?_
  refine g_iconst (by decide) (fun v1866 kv1866 => ?_)
  refine g_invvi hI sm_0 rfl rfl rfl rfl (s_182 a1 (by first | with_reducible assumption | omega) v1866 (by first | with_reducible assumption | omega) H hI (JM_n hJ)) (fun v1869 H1867 r1868 => ?_)
  obtain ⟨rfl, p1870⟩ := r1868
  have tv1869 : v1869 = aZ H 2 (69 + 5 * a1.toInt + 2).toNat := by rw [p1870, kv1866]
  have qv1869 := JN_w2 (JM_n hJ) (by first | with_reducible assumption | omega) tv1869
  refine g_istore_n (l' := [(0, .ref 0), (1, .int a1), (2, .int v1864), (3, .int v1869)]) rfl rfl ?_
  refine g_aload_n rfl ?_
  refine g_iload_n rfl ?_
  refine g_iconst (by decide) (fun v1871 kv1871 => ?_)
  refine g_invvi hI sm_0 rfl rfl rfl rfl (s_182 a1 (by first | with_reducible assumption | omega) v1871 (by first | with_reducible assumption | omega) H hI (JM_n hJ)) (fun v1874 H1872 r1873 => ?_)
  obtain ⟨rfl, p1875⟩ := r1873
  have tv1874 : v1874 = aZ H 2 (69 + 5 * a1.toInt + 3).toNat := by rw [p1875, kv1871]
  have qv1874 := JN_w3 (JM_n hJ) (by first | with_reducible assumption | omega) tv1864 tv1874
  refine g_istore (l' := [(0, .ref 0), (1, .int a1), (2, .int v1864), (3, .int v1869), (4, .int v1874)]) rfl rfl ?_
  refine g_iload_n rfl ?_
  refine g_iconst (by decide) (fun v1876 kv1876 => ?_)
  refine g_if2_ne (fun c1877 => ?_) (fun c1877 => ?_)
  · refine g_iconst (by decide) (fun v1878 kv1878 => ?_)
    refine g_nop ?_
    refine g_istore (l' := [(0, .ref 0), (1, .int a1), (2, .int v1864), (3, .int v1869), (4, .int v1874), (5, .int v1878)]) rfl rfl ?_
    refine g_iload_n rfl ?_
    refine g_if_ne (fun c1879 => ?_) (fun c1879 => ?_)
    · refine g_aload_n rfl ?_
      refine g_gfr hI sm_0 rfl ?_
      refine g_iload_n rfl ?_
      refine g_baload hI sm_7 rfl (by first | with_reducible assumption | omega) (fun v1880 ev1880 lv1880 uv1880 => ?_)
      have yv1880 : v1880.toInt = (aZ H 7 v1869.toInt.toNat).toInt := by rw [ev1880]
      refine g_if_eq (fun c1881 => ?_) (fun c1881 => ?_)
      · refine g_iconst (by decide) (fun v1882 kv1882 => ?_)
        exact g_iret ⟨_, rfl, rfl, (fun w n o ew en eo hv => by rw [show w = v1864 from ew.trans tv1864.symm, show n = v1869 from en.trans tv1869.symm, show o = v1874 from eo.trans tv1874.symm]; first | (exfalso; omega) | exact ⟨fun _ => by omega, fun _ => by omega, fun _ => by omega⟩)⟩
      · refine g_iload rfl ?_
        refine g_if_eq (fun c1883 => ?_) (fun c1883 => ?_)
        · refine g_aload_n rfl ?_
          refine g_gfr hI sm_0 rfl ?_
          refine g_iload_n rfl ?_
          refine g_baload hI sm_16 rfl (by first | with_reducible assumption | omega) (fun v1884 ev1884 lv1884 uv1884 => ?_)
          refine g_if_ne (fun c1885 => ?_) (fun c1885 => ?_)
          · refine g_iconst (by decide) (fun v1886 kv1886 => ?_)
            exact g_iret ⟨_, rfl, rfl, (fun w n o ew en eo hv => by rw [show w = v1864 from ew.trans tv1864.symm, show n = v1869 from en.trans tv1869.symm, show o = v1874 from eo.trans tv1874.symm]; first | (exfalso; omega) | exact ⟨fun _ => by omega, fun _ => by omega, fun _ => by omega⟩)⟩
          · refine g_iload rfl ?_
            refine g_if_eq (fun c1887 => ?_) (fun c1887 => ?_)
            · refine g_iload rfl ?_
              refine g_if_eq (fun c1888 => ?_) (fun c1888 => ?_)
              · refine g_iload rfl ?_
                refine g_if_eq (fun c1889 => ?_) (fun c1889 => ?_)
                · refine g_iload_n rfl ?_
                  refine g_iconst (by decide) (fun v1890 kv1890 => ?_)
                  refine g_if2_ne (fun c1891 => ?_) (fun c1891 => ?_)
                  · refine g_iload_n rfl ?_
                    refine g_iconst (by decide) (fun v1892 kv1892 => ?_)
                    refine g_if2_lt (fun c1893 => ?_) (fun c1893 => ?_)
                    · exfalso; omega
                    · refine g_iload_n rfl ?_
                      refine g_bipush (by decide) (fun v1894 kv1894 => ?_)
                      refine g_if2_gt (fun c1895 => ?_) (fun c1895 => ?_)
                      · refine g_iconst (by decide) (fun v1896 kv1896 => ?_)
                        refine g_nop ?_
                        refine g_istore (l' := [(0, .ref 0), (1, .int a1), (2, .int v1864), (3, .int v1869), (4, .int v1874), (5, .int v1878), (6, .int v1896)]) rfl rfl ?_
                        refine g_iload rfl ?_
                        refine g_if_eq (fun c1897 => ?_) (fun c1897 => ?_)
                        · refine g_iload rfl ?_
                          refine g_if_eq (fun c1898 => ?_) (fun c1898 => ?_)
                          · refine g_iload_n rfl ?_
                            refine g_bipush (by decide) (fun v1899 kv1899 => ?_)
                            refine g_if2_ne (fun c1900 => ?_) (fun c1900 => ?_)
                            · refine g_iload rfl ?_
                              refine g_if_eq (fun c1901 => ?_) (fun c1901 => ?_)
                              · refine g_iload_n rfl ?_
                                refine g_iconst (by decide) (fun v1902 kv1902 => ?_)
                                refine g_if2_ne (fun c1903 => ?_) (fun c1903 => ?_)
                                · refine g_iload_n rfl ?_
                                  refine g_iconst (by decide) (fun v1904 kv1904 => ?_)
                                  refine g_if2_ne (fun c1905 => ?_) (fun c1905 => ?_)
                                  · refine g_aload_n rfl ?_
                                    refine g_iload_n rfl ?_
                                    refine g_iconst (by decide) (fun v1906 kv1906 => ?_)
                                    refine g_bipush (by decide) (fun v1907 kv1907 => ?_)
                                    refine g_bipush (by decide) (fun v1908 kv1908 => ?_)
                                    refine g_invvi hI sm_0 rfl rfl rfl rfl (s_191 v1864 v1906 v1907 v1908 H hI (JM_n hJ)) (fun v1911 H1909 r1910 => ?_)
                                    obtain ⟨rfl, bv1911⟩ := r1910
                                    refine g_if_eq (fun c1912 => ?_) (fun c1912 => ?_)
                                    · refine g_iload_n rfl ?_
                                      refine g_iconst (by decide) (fun v1913 kv1913 => ?_)
                                      refine g_if2_eq (fun c1914 => ?_) (fun c1914 => ?_)
                                      · exfalso; omega
                                      · refine g_iload_n rfl ?_
                                        refine g_bipush (by decide) (fun v1915 kv1915 => ?_)
                                        refine g_if2_ne (fun c1916 => ?_) (fun c1916 => ?_)
                                        · refine g_iload rfl ?_
                                          refine g_if_ne (fun c1917 => ?_) (fun c1917 => ?_)
                                          · exfalso; omega
                                          · refine g_iload_n rfl ?_
                                            refine g_bipush (by decide) (fun v1918 kv1918 => ?_)
                                            refine g_if2_ne (fun c1919 => ?_) (fun c1919 => ?_)
                                            · refine g_iload_n rfl ?_
                                              refine g_bipush (by decide) (fun v1920 kv1920 => ?_)
                                              refine g_if2_ne (fun c1921 => ?_) (fun c1921 => ?_)
                                              · refine g_iconst (by decide) (fun v1922 kv1922 => ?_)
                                                refine g_nop ?_
                                                exact g_iret ⟨_, rfl, rfl, (fun w n o ew en eo hv => by rw [show w = v1864 from ew.trans tv1864.symm, show n = v1869 from en.trans tv1869.symm, show o = v1874 from eo.trans tv1874.symm]; first | (exfalso; omega) | exact ⟨fun _ => by omega, fun _ => by omega, fun _ => by omega⟩)⟩
                                              · refine g_aload_n rfl ?_
                                                refine g_gfr hI sm_0 rfl ?_
                                                refine g_iload_n rfl ?_
                                                refine g_baload hI sm_14 rfl (by first | with_reducible assumption | omega) (fun v1923 ev1923 lv1923 uv1923 => ?_)
                                                refine g_if_ne (fun c1924 => ?_) (fun c1924 => ?_)
                                                · refine g_iconst (by decide) (fun v1925 kv1925 => ?_)
                                                  refine g_nop ?_
                                                  exact g_iret ⟨_, rfl, rfl, (fun w n o ew en eo hv => by rw [show w = v1864 from ew.trans tv1864.symm, show n = v1869 from en.trans tv1869.symm, show o = v1874 from eo.trans tv1874.symm]; first | (exfalso; omega) | exact ⟨fun _ => by omega, fun _ => by omega, fun _ => by omega⟩)⟩
                                                · refine g_bipush (by decide) (fun v1926 kv1926 => ?_)
                                                  refine g_goto ?_
                                                  exact g_iret ⟨_, rfl, rfl, (fun w n o ew en eo hv => by rw [show w = v1864 from ew.trans tv1864.symm, show n = v1869 from en.trans tv1869.symm, show o = v1874 from eo.trans tv1874.symm]; first | (exfalso; omega) | exact ⟨fun _ => by omega, fun _ => by omega, fun _ => by omega⟩)⟩
                                            · exfalso; omega
                                        · exfalso; omega
                                    · refine g_aload_n rfl ?_
                                      refine g_gfr hI sm_0 rfl ?_
                                      refine g_iload_n rfl ?_
                                      refine g_iaload hI sm_9 rfl (by first | with_reducible assumption | omega) (fun v1927 ev1927 lv1927 uv1927 => ?_)
                                      have qv1927 := JM_in hJ (by first | with_reducible assumption | omega) ev1927
                                      have yv1927 : v1927.toInt = (aZ H 9 v1869.toInt.toNat).toInt := by rw [ev1927]
                                      refine g_bipush (by decide) (fun v1928 kv1928 => ?_)
                                      refine g_if2_eq (fun c1929 => ?_) (fun c1929 => ?_)
                                      · refine g_iload_n rfl ?_
                                        refine g_iconst (by decide) (fun v1930 kv1930 => ?_)
                                        refine g_if2_eq (fun c1931 => ?_) (fun c1931 => ?_)
                                        · exfalso; omega
                                        · refine g_iload_n rfl ?_
                                          refine g_bipush (by decide) (fun v1932 kv1932 => ?_)
                                          refine g_if2_ne (fun c1933 => ?_) (fun c1933 => ?_)
                                          · refine g_iload rfl ?_
                                            refine g_if_ne (fun c1934 => ?_) (fun c1934 => ?_)
                                            · exfalso; omega
                                            · refine g_iload_n rfl ?_
                                              refine g_bipush (by decide) (fun v1935 kv1935 => ?_)
                                              refine g_if2_ne (fun c1936 => ?_) (fun c1936 => ?_)
                                              · refine g_iload_n rfl ?_
                                                refine g_bipush (by decide) (fun v1937 kv1937 => ?_)
                                                refine g_if2_ne (fun c1938 => ?_) (fun c1938 => ?_)
                                                · refine g_iconst (by decide) (fun v1939 kv1939 => ?_)
                                                  refine g_nop ?_
                                                  exact g_iret ⟨_, rfl, rfl, (fun w n o ew en eo hv => by rw [show w = v1864 from ew.trans tv1864.symm, show n = v1869 from en.trans tv1869.symm, show o = v1874 from eo.trans tv1874.symm]; first | (exfalso; omega) | exact ⟨fun _ => by omega, fun _ => by omega, fun _ => by omega⟩)⟩
                                                · refine g_aload_n rfl ?_
                                                  refine g_gfr hI sm_0 rfl ?_
                                                  refine g_iload_n rfl ?_
                                                  refine g_baload hI sm_14 rfl (by first | with_reducible assumption | omega) (fun v1940 ev1940 lv1940 uv1940 => ?_)
                                                  refine g_if_ne (fun c1941 => ?_) (fun c1941 => ?_)
                                                  · refine g_iconst (by decide) (fun v1942 kv1942 => ?_)
                                                    refine g_nop ?_
                                                    exact g_iret ⟨_, rfl, rfl, (fun w n o ew en eo hv => by rw [show w = v1864 from ew.trans tv1864.symm, show n = v1869 from en.trans tv1869.symm, show o = v1874 from eo.trans tv1874.symm]; first | (exfalso; omega) | exact ⟨fun _ => by omega, fun _ => by omega, fun _ => by omega⟩)⟩
                                                  · refine g_bipush (by decide) (fun v1943 kv1943 => ?_)
                                                    refine g_goto ?_
                                                    exact g_iret ⟨_, rfl, rfl, (fun w n o ew en eo hv => by rw [show w = v1864 from ew.trans tv1864.symm, show n = v1869 from en.trans tv1869.symm, show o = v1874 from eo.trans tv1874.symm]; first | (exfalso; omega) | exact ⟨fun _ => by omega, fun _ => by omega, fun _ => by omega⟩)⟩
                                              · exfalso; omega
                                          · exfalso; omega
                                      · refine g_bipush (by decide) (fun v1944 kv1944 => ?_)
                                        exact g_iret ⟨_, rfl, rfl, (fun w n o ew en eo hv => by rw [show w = v1864 from ew.trans tv1864.symm, show n = v1869 from en.trans tv1869.symm, show o = v1874 from eo.trans tv1874.symm]; first | (exfalso; omega) | exact ⟨fun _ => by omega, fun _ => by omega, fun _ => by omega⟩)⟩
                                  · exfalso; omega
                                · exfalso; omega
                              · exfalso; omega
                            · refine g_aload_n rfl ?_
                              refine g_gfr hI sm_0 rfl ?_
                              refine g_iload_n rfl ?_
                              refine g_iaload hI sm_9 rfl (by first | with_reducible assumption | omega) (fun v1945 ev1945 lv1945 uv1945 => ?_)
                              have qv1945 := JM_in hJ (by first | with_reducible assumption | omega) ev1945
                              have yv1945 : v1945.toInt = (aZ H 9 v1869.toInt.toNat).toInt := by rw [ev1945]
                              refine g_bipush (by decide) (fun v1946 kv1946 => ?_)
                              refine g_if2_ne (fun c1947 => ?_) (fun c1947 => ?_)
                              · refine g_bipush (by decide) (fun v1948 kv1948 => ?_)
                                exact g_iret ⟨_, rfl, rfl, (fun w n o ew en eo hv => by rw [show w = v1864 from ew.trans tv1864.symm, show n = v1869 from en.trans tv1869.symm, show o = v1874 from eo.trans tv1874.symm]; first | (exfalso; omega) | exact ⟨fun _ => by omega, fun _ => by omega, fun _ => by omega⟩)⟩
                              · refine g_aload_n rfl ?_
                                refine g_gfr hI sm_0 rfl ?_
                                refine g_iload_n rfl ?_
                                refine g_baload hI sm_15 rfl (by first | with_reducible assumption | omega) (fun v1949 ev1949 lv1949 uv1949 => ?_)
                                refine g_if_ne (fun c1950 => ?_) (fun c1950 => ?_)
                                · refine g_iload rfl ?_
                                  refine g_if_eq (fun c1951 => ?_) (fun c1951 => ?_)
                                  · refine g_iload_n rfl ?_
                                    refine g_iconst (by decide) (fun v1952 kv1952 => ?_)
                                    refine g_if2_ne (fun c1953 => ?_) (fun c1953 => ?_)
                                    · refine g_iload_n rfl ?_
                                      refine g_iconst (by decide) (fun v1954 kv1954 => ?_)
                                      refine g_if2_ne (fun c1955 => ?_) (fun c1955 => ?_)
                                      · refine g_aload_n rfl ?_
                                        refine g_iload_n rfl ?_
                                        refine g_iconst (by decide) (fun v1956 kv1956 => ?_)
                                        refine g_bipush (by decide) (fun v1957 kv1957 => ?_)
                                        refine g_bipush (by decide) (fun v1958 kv1958 => ?_)
                                        refine g_invvi hI sm_0 rfl rfl rfl rfl (s_191 v1864 v1956 v1957 v1958 H hI (JM_n hJ)) (fun v1961 H1959 r1960 => ?_)
                                        obtain ⟨rfl, bv1961⟩ := r1960
                                        refine g_if_eq (fun c1962 => ?_) (fun c1962 => ?_)
                                        · refine g_iload_n rfl ?_
                                          refine g_iconst (by decide) (fun v1963 kv1963 => ?_)
                                          refine g_if2_eq (fun c1964 => ?_) (fun c1964 => ?_)
                                          · exfalso; omega
                                          · refine g_iload_n rfl ?_
                                            refine g_bipush (by decide) (fun v1965 kv1965 => ?_)
                                            refine g_if2_ne (fun c1966 => ?_) (fun c1966 => ?_)
                                            · refine g_iload rfl ?_
                                              refine g_if_ne (fun c1967 => ?_) (fun c1967 => ?_)
                                              · exfalso; omega
                                              · refine g_iload_n rfl ?_
                                                refine g_bipush (by decide) (fun v1968 kv1968 => ?_)
                                                refine g_if2_ne (fun c1969 => ?_) (fun c1969 => ?_)
                                                · refine g_iload_n rfl ?_
                                                  refine g_bipush (by decide) (fun v1970 kv1970 => ?_)
                                                  refine g_if2_ne (fun c1971 => ?_) (fun c1971 => ?_)
                                                  · refine g_iconst (by decide) (fun v1972 kv1972 => ?_)
                                                    refine g_nop ?_
                                                    exact g_iret ⟨_, rfl, rfl, (fun w n o ew en eo hv => by rw [show w = v1864 from ew.trans tv1864.symm, show n = v1869 from en.trans tv1869.symm, show o = v1874 from eo.trans tv1874.symm]; first | (exfalso; omega) | exact ⟨fun _ => by omega, fun _ => by omega, fun _ => by omega⟩)⟩
                                                  · exfalso; omega
                                                · exfalso; omega
                                            · exfalso; omega
                                        · refine g_aload_n rfl ?_
                                          refine g_gfr hI sm_0 rfl ?_
                                          refine g_iload_n rfl ?_
                                          refine g_ialoadk hI sm_9 rfl (by first | with_reducible assumption | omega) ev1945 ?_
                                          refine g_bipush (by decide) (fun v1973 kv1973 => ?_)
                                          refine g_if2_eq (fun c1974 => ?_) (fun c1974 => ?_)
                                          · refine g_iload_n rfl ?_
                                            refine g_iconst (by decide) (fun v1975 kv1975 => ?_)
                                            refine g_if2_eq (fun c1976 => ?_) (fun c1976 => ?_)
                                            · exfalso; omega
                                            · refine g_iload_n rfl ?_
                                              refine g_bipush (by decide) (fun v1977 kv1977 => ?_)
                                              refine g_if2_ne (fun c1978 => ?_) (fun c1978 => ?_)
                                              · refine g_iload rfl ?_
                                                refine g_if_ne (fun c1979 => ?_) (fun c1979 => ?_)
                                                · exfalso; omega
                                                · refine g_iload_n rfl ?_
                                                  refine g_bipush (by decide) (fun v1980 kv1980 => ?_)
                                                  refine g_if2_ne (fun c1981 => ?_) (fun c1981 => ?_)
                                                  · refine g_iload_n rfl ?_
                                                    refine g_bipush (by decide) (fun v1982 kv1982 => ?_)
                                                    refine g_if2_ne (fun c1983 => ?_) (fun c1983 => ?_)
                                                    · refine g_iconst (by decide) (fun v1984 kv1984 => ?_)
                                                      refine g_nop ?_
                                                      exact g_iret ⟨_, rfl, rfl, (fun w n o ew en eo hv => by rw [show w = v1864 from ew.trans tv1864.symm, show n = v1869 from en.trans tv1869.symm, show o = v1874 from eo.trans tv1874.symm]; first | (exfalso; omega) | exact ⟨fun _ => by omega, fun _ => by omega, fun _ => by omega⟩)⟩
                                                    · exfalso; omega
                                                  · exfalso; omega
                                              · exfalso; omega
                                          · exfalso; omega
                                      · exfalso; omega
                                    · exfalso; omega
                                  · exfalso; omega
                                · refine g_nop ?_
                                  refine g_bipush (by decide) (fun v1985 kv1985 => ?_)
                                  exact g_iret ⟨_, rfl, rfl, (fun w n o ew en eo hv => by rw [show w = v1864 from ew.trans tv1864.symm, show n = v1869 from en.trans tv1869.symm, show o = v1874 from eo.trans tv1874.symm]; first | (exfalso; omega) | exact ⟨fun _ => by omega, fun _ => by omega, fun _ => by omega⟩)⟩
                          · exfalso; omega
                        · exfalso; omega
                      · refine g_iconst (by decide) (fun v1986 kv1986 => ?_)
                        refine g_goto ?_
                        refine g_istore (l' := [(0, .ref 0), (1, .int a1), (2, .int v1864), (3, .int v1869), (4, .int v1874), (5, .int v1878), (6, .int v1986)]) rfl rfl ?_
                        refine g_iload rfl ?_
                        refine g_if_eq (fun c1987 => ?_) (fun c1987 => ?_)
                        · exfalso; omega
                        · refine g_aload_n rfl ?_
                          refine g_gfr hI sm_0 rfl ?_
                          refine g_aload_n rfl ?_
                          refine g_iload_n rfl ?_
                          refine g_invvi hI sm_0 rfl rfl rfl rfl (s_186 v1869 (by first | with_reducible assumption | omega) H hI hJ) (fun v1990 H1988 r1989 => ?_)
                          obtain ⟨rfl, bv1990⟩ := r1989
                          refine g_baload hI sm_15 rfl (by first | with_reducible assumption | omega) (fun v1991 ev1991 lv1991 uv1991 => ?_)
                          refine g_if_ne (fun c1992 => ?_) (fun c1992 => ?_)
                          · refine g_bipush (by decide) (fun v1993 kv1993 => ?_)
                            exact g_iret ⟨_, rfl, rfl, (fun w n o ew en eo hv => by rw [show w = v1864 from ew.trans tv1864.symm, show n = v1869 from en.trans tv1869.symm, show o = v1874 from eo.trans tv1874.symm]; first | (exfalso; omega) | exact ⟨fun _ => by omega, fun _ => by omega, fun _ => by omega⟩)⟩
                          · refine g_nop ?_
                            refine g_iload rfl ?_
                            refine g_if_eq (fun c1994 => ?_) (fun c1994 => ?_)
                            · refine g_iload_n rfl ?_
                              refine g_bipush (by decide) (fun v1995 kv1995 => ?_)
                              refine g_if2_ne (fun c1996 => ?_) (fun c1996 => ?_)
                              · refine g_iload rfl ?_
                                refine g_if_eq (fun c1997 => ?_) (fun c1997 => ?_)
                                · refine g_iload_n rfl ?_
                                  refine g_iconst (by decide) (fun v1998 kv1998 => ?_)
                                  refine g_if2_ne (fun c1999 => ?_) (fun c1999 => ?_)
                                  · refine g_iload_n rfl ?_
                                    refine g_iconst (by decide) (fun v2000 kv2000 => ?_)
                                    refine g_if2_ne (fun c2001 => ?_) (fun c2001 => ?_)
                                    · refine g_aload_n rfl ?_
                                      refine g_iload_n rfl ?_
                                      refine g_iconst (by decide) (fun v2002 kv2002 => ?_)
                                      refine g_bipush (by decide) (fun v2003 kv2003 => ?_)
                                      refine g_bipush (by decide) (fun v2004 kv2004 => ?_)
                                      refine g_invvi hI sm_0 rfl rfl rfl rfl (s_191 v1864 v2002 v2003 v2004 H hI (JM_n hJ)) (fun v2007 H2005 r2006 => ?_)
                                      obtain ⟨rfl, bv2007⟩ := r2006
                                      refine g_if_eq (fun c2008 => ?_) (fun c2008 => ?_)
                                      · refine g_iload_n rfl ?_
                                        refine g_iconst (by decide) (fun v2009 kv2009 => ?_)
                                        refine g_if2_eq (fun c2010 => ?_) (fun c2010 => ?_)
                                        · refine g_aload_n rfl ?_
                                          refine g_iload_n rfl ?_
                                          refine g_iload rfl ?_
                                          refine g_aload_n rfl ?_
                                          refine g_gfr hI sm_0 rfl ?_
                                          refine g_iload_n rfl ?_
                                          refine g_iaload hI sm_18 rfl (by first | with_reducible assumption | omega) (fun v2011 ev2011 lv2011 uv2011 => ?_)
                                          refine g_invvi hI sm_0 rfl rfl rfl rfl (s_190 v1869 (by first | with_reducible assumption | omega) v1874 (by first | with_reducible assumption | omega) v2011 H hI hJ) (fun v2014 H2012 r2013 => ?_)
                                          obtain ⟨rfl, bv2014⟩ := r2013
                                          refine g_if_eq (fun c2015 => ?_) (fun c2015 => ?_)
                                          · refine g_iload rfl ?_
                                            refine g_if_ne (fun c2016 => ?_) (fun c2016 => ?_)
                                            · exfalso; omega
                                            · refine g_iload_n rfl ?_
                                              refine g_bipush (by decide) (fun v2017 kv2017 => ?_)
                                              refine g_if2_ne (fun c2018 => ?_) (fun c2018 => ?_)
                                              · refine g_iload_n rfl ?_
                                                refine g_bipush (by decide) (fun v2019 kv2019 => ?_)
                                                refine g_if2_ne (fun c2020 => ?_) (fun c2020 => ?_)
                                                · refine g_iconst (by decide) (fun v2021 kv2021 => ?_)
                                                  refine g_nop ?_
                                                  exact g_iret ⟨_, rfl, rfl, (fun w n o ew en eo hv => by rw [show w = v1864 from ew.trans tv1864.symm, show n = v1869 from en.trans tv1869.symm, show o = v1874 from eo.trans tv1874.symm]; first | (exfalso; omega) | exact ⟨fun _ => by omega, fun _ => by omega, fun _ => by omega⟩)⟩
                                                · exfalso; omega
                                              · exfalso; omega
                                          · refine g_bipush (by decide) (fun v2022 kv2022 => ?_)
                                            exact g_iret ⟨_, rfl, rfl, (fun w n o ew en eo hv => by rw [show w = v1864 from ew.trans tv1864.symm, show n = v1869 from en.trans tv1869.symm, show o = v1874 from eo.trans tv1874.symm]; first | (exfalso; omega) | exact ⟨fun _ => by omega, fun _ => by omega, fun _ => by omega⟩)⟩
                                        · refine g_iload_n rfl ?_
                                          refine g_bipush (by decide) (fun v2023 kv2023 => ?_)
                                          refine g_if2_ne (fun c2024 => ?_) (fun c2024 => ?_)
                                          · refine g_iload rfl ?_
                                            refine g_if_ne (fun c2025 => ?_) (fun c2025 => ?_)
                                            · exfalso; omega
                                            · refine g_iload_n rfl ?_
                                              refine g_bipush (by decide) (fun v2026 kv2026 => ?_)
                                              refine g_if2_ne (fun c2027 => ?_) (fun c2027 => ?_)
                                              · refine g_iload_n rfl ?_
                                                refine g_bipush (by decide) (fun v2028 kv2028 => ?_)
                                                refine g_if2_ne (fun c2029 => ?_) (fun c2029 => ?_)
                                                · refine g_iconst (by decide) (fun v2030 kv2030 => ?_)
                                                  refine g_nop ?_
                                                  exact g_iret ⟨_, rfl, rfl, (fun w n o ew en eo hv => by rw [show w = v1864 from ew.trans tv1864.symm, show n = v1869 from en.trans tv1869.symm, show o = v1874 from eo.trans tv1874.symm]; first | (exfalso; omega) | exact ⟨fun _ => by omega, fun _ => by omega, fun _ => by omega⟩)⟩
                                                · exfalso; omega
                                              · refine g_nop ?_
                                                refine g_aload_n rfl ?_
                                                refine g_iload_n rfl ?_
                                                refine g_invvi hI sm_0 rfl rfl rfl rfl (s_188 v1869 H hI hJ) (fun v2033 H2031 r2032 => ?_)
                                                obtain ⟨rfl, bv2033⟩ := r2032
                                                refine g_if_eq (fun c2034 => ?_) (fun c2034 => ?_)
                                                · refine g_iload_n rfl ?_
                                                  refine g_bipush (by decide) (fun v2035 kv2035 => ?_)
                                                  refine g_if2_ne (fun c2036 => ?_) (fun c2036 => ?_)
                                                  · refine g_iconst (by decide) (fun v2037 kv2037 => ?_)
                                                    refine g_nop ?_
                                                    exact g_iret ⟨_, rfl, rfl, (fun w n o ew en eo hv => by rw [show w = v1864 from ew.trans tv1864.symm, show n = v1869 from en.trans tv1869.symm, show o = v1874 from eo.trans tv1874.symm]; first | (exfalso; omega) | exact ⟨fun _ => by omega, fun _ => by omega, fun _ => by omega⟩)⟩
                                                  · exfalso; omega
                                                · refine g_bipush (by decide) (fun v2038 kv2038 => ?_)
                                                  exact g_iret ⟨_, rfl, rfl, (fun w n o ew en eo hv => by rw [show w = v1864 from ew.trans tv1864.symm, show n = v1869 from en.trans tv1869.symm, show o = v1874 from eo.trans tv1874.symm]; first | (exfalso; omega) | exact ⟨fun _ => by omega, fun _ => by omega, fun _ => by omega⟩)⟩
                                          · refine g_nop ?_
                                            refine g_aload_n rfl ?_
                                            refine g_iload_n rfl ?_
                                            refine g_iload rfl ?_
                                            refine g_aload_n rfl ?_
                                            refine g_gfr hI sm_0 rfl ?_
                                            refine g_iload_n rfl ?_
                                            refine g_iaload hI sm_18 rfl (by first | with_reducible assumption | omega) (fun v2039 ev2039 lv2039 uv2039 => ?_)
                                            refine g_invvi hI sm_0 rfl rfl rfl rfl (s_190 v1869 (by first | with_reducible assumption | omega) v1874 (by first | with_reducible assumption | omega) v2039 H hI hJ) (fun v2042 H2040 r2041 => ?_)
                                            obtain ⟨rfl, bv2042⟩ := r2041
                                            refine g_if_eq (fun c2043 => ?_) (fun c2043 => ?_)
                                            · refine g_iload rfl ?_
                                              refine g_if_ne (fun c2044 => ?_) (fun c2044 => ?_)
                                              · exfalso; omega
                                              · refine g_iload_n rfl ?_
                                                refine g_bipush (by decide) (fun v2045 kv2045 => ?_)
                                                refine g_if2_ne (fun c2046 => ?_) (fun c2046 => ?_)
                                                · refine g_iload_n rfl ?_
                                                  refine g_bipush (by decide) (fun v2047 kv2047 => ?_)
                                                  refine g_if2_ne (fun c2048 => ?_) (fun c2048 => ?_)
                                                  · refine g_iconst (by decide) (fun v2049 kv2049 => ?_)
                                                    refine g_nop ?_
                                                    exact g_iret ⟨_, rfl, rfl, (fun w n o ew en eo hv => by rw [show w = v1864 from ew.trans tv1864.symm, show n = v1869 from en.trans tv1869.symm, show o = v1874 from eo.trans tv1874.symm]; first | (exfalso; omega) | exact ⟨fun _ => by omega, fun _ => by omega, fun _ => by omega⟩)⟩
                                                  · exfalso; omega
                                                · exfalso; omega
                                            · refine g_bipush (by decide) (fun v2050 kv2050 => ?_)
                                              exact g_iret ⟨_, rfl, rfl, (fun w n o ew en eo hv => by rw [show w = v1864 from ew.trans tv1864.symm, show n = v1869 from en.trans tv1869.symm, show o = v1874 from eo.trans tv1874.symm]; first | (exfalso; omega) | exact ⟨fun _ => by omega, fun _ => by omega, fun _ => by omega⟩)⟩
                                      · refine g_aload_n rfl ?_
                                        refine g_gfr hI sm_0 rfl ?_
                                        refine g_iload_n rfl ?_
                                        refine g_iaload hI sm_9 rfl (by first | with_reducible assumption | omega) (fun v2051 ev2051 lv2051 uv2051 => ?_)
                                        have qv2051 := JM_in hJ (by first | with_reducible assumption | omega) ev2051
                                        have yv2051 : v2051.toInt = (aZ H 9 v1869.toInt.toNat).toInt := by rw [ev2051]
                                        refine g_bipush (by decide) (fun v2052 kv2052 => ?_)
                                        refine g_if2_eq (fun c2053 => ?_) (fun c2053 => ?_)
                                        · refine g_iload_n rfl ?_
                                          refine g_iconst (by decide) (fun v2054 kv2054 => ?_)
                                          refine g_if2_eq (fun c2055 => ?_) (fun c2055 => ?_)
                                          · refine g_aload_n rfl ?_
                                            refine g_iload_n rfl ?_
                                            refine g_iload rfl ?_
                                            refine g_aload_n rfl ?_
                                            refine g_gfr hI sm_0 rfl ?_
                                            refine g_iload_n rfl ?_
                                            refine g_iaload hI sm_18 rfl (by first | with_reducible assumption | omega) (fun v2056 ev2056 lv2056 uv2056 => ?_)
                                            refine g_invvi hI sm_0 rfl rfl rfl rfl (s_190 v1869 (by first | with_reducible assumption | omega) v1874 (by first | with_reducible assumption | omega) v2056 H hI hJ) (fun v2059 H2057 r2058 => ?_)
                                            obtain ⟨rfl, bv2059⟩ := r2058
                                            refine g_if_eq (fun c2060 => ?_) (fun c2060 => ?_)
                                            · refine g_iload rfl ?_
                                              refine g_if_ne (fun c2061 => ?_) (fun c2061 => ?_)
                                              · exfalso; omega
                                              · refine g_iload_n rfl ?_
                                                refine g_bipush (by decide) (fun v2062 kv2062 => ?_)
                                                refine g_if2_ne (fun c2063 => ?_) (fun c2063 => ?_)
                                                · refine g_iload_n rfl ?_
                                                  refine g_bipush (by decide) (fun v2064 kv2064 => ?_)
                                                  refine g_if2_ne (fun c2065 => ?_) (fun c2065 => ?_)
                                                  · refine g_iconst (by decide) (fun v2066 kv2066 => ?_)
                                                    refine g_nop ?_
                                                    exact g_iret ⟨_, rfl, rfl, (fun w n o ew en eo hv => by rw [show w = v1864 from ew.trans tv1864.symm, show n = v1869 from en.trans tv1869.symm, show o = v1874 from eo.trans tv1874.symm]; first | (exfalso; omega) | exact ⟨fun _ => by omega, fun _ => by omega, fun _ => by omega⟩)⟩
                                                  · exfalso; omega
                                                · exfalso; omega
                                            · refine g_bipush (by decide) (fun v2067 kv2067 => ?_)
                                              exact g_iret ⟨_, rfl, rfl, (fun w n o ew en eo hv => by rw [show w = v1864 from ew.trans tv1864.symm, show n = v1869 from en.trans tv1869.symm, show o = v1874 from eo.trans tv1874.symm]; first | (exfalso; omega) | exact ⟨fun _ => by omega, fun _ => by omega, fun _ => by omega⟩)⟩
                                          · refine g_iload_n rfl ?_
                                            refine g_bipush (by decide) (fun v2068 kv2068 => ?_)
                                            refine g_if2_ne (fun c2069 => ?_) (fun c2069 => ?_)
                                            · refine g_iload rfl ?_
                                              refine g_if_ne (fun c2070 => ?_) (fun c2070 => ?_)
                                              · exfalso; omega
                                              · refine g_iload_n rfl ?_
                                                refine g_bipush (by decide) (fun v2071 kv2071 => ?_)
                                                refine g_if2_ne (fun c2072 => ?_) (fun c2072 => ?_)
                                                · refine g_iload_n rfl ?_
                                                  refine g_bipush (by decide) (fun v2073 kv2073 => ?_)
                                                  refine g_if2_ne (fun c2074 => ?_) (fun c2074 => ?_)
                                                  · refine g_iconst (by decide) (fun v2075 kv2075 => ?_)
                                                    refine g_nop ?_
                                                    exact g_iret ⟨_, rfl, rfl, (fun w n o ew en eo hv => by rw [show w = v1864 from ew.trans tv1864.symm, show n = v1869 from en.trans tv1869.symm, show o = v1874 from eo.trans tv1874.symm]; first | (exfalso; omega) | exact ⟨fun _ => by omega, fun _ => by omega, fun _ => by omega⟩)⟩
                                                  · exfalso; omega
                                                · refine g_nop ?_
                                                  refine g_aload_n rfl ?_
                                                  refine g_iload_n rfl ?_
                                                  refine g_invvi hI sm_0 rfl rfl rfl rfl (s_188 v1869 H hI hJ) (fun v2078 H2076 r2077 => ?_)
                                                  obtain ⟨rfl, bv2078⟩ := r2077
                                                  refine g_if_eq (fun c2079 => ?_) (fun c2079 => ?_)
                                                  · refine g_iload_n rfl ?_
                                                    refine g_bipush (by decide) (fun v2080 kv2080 => ?_)
                                                    refine g_if2_ne (fun c2081 => ?_) (fun c2081 => ?_)
                                                    · refine g_iconst (by decide) (fun v2082 kv2082 => ?_)
                                                      refine g_nop ?_
                                                      exact g_iret ⟨_, rfl, rfl, (fun w n o ew en eo hv => by rw [show w = v1864 from ew.trans tv1864.symm, show n = v1869 from en.trans tv1869.symm, show o = v1874 from eo.trans tv1874.symm]; first | (exfalso; omega) | exact ⟨fun _ => by omega, fun _ => by omega, fun _ => by omega⟩)⟩
                                                    · exfalso; omega
                                                  · refine g_bipush (by decide) (fun v2083 kv2083 => ?_)
                                                    exact g_iret ⟨_, rfl, rfl, (fun w n o ew en eo hv => by rw [show w = v1864 from ew.trans tv1864.symm, show n = v1869 from en.trans tv1869.symm, show o = v1874 from eo.trans tv1874.symm]; first | (exfalso; omega) | exact ⟨fun _ => by omega, fun _ => by omega, fun _ => by omega⟩)⟩
                                            · refine g_nop ?_
                                              refine g_aload_n rfl ?_
                                              refine g_iload_n rfl ?_
                                              refine g_iload rfl ?_
                                              refine g_aload_n rfl ?_
                                              refine g_gfr hI sm_0 rfl ?_
                                              refine g_iload_n rfl ?_
                                              refine g_iaload hI sm_18 rfl (by first | with_reducible assumption | omega) (fun v2084 ev2084 lv2084 uv2084 => ?_)
                                              refine g_invvi hI sm_0 rfl rfl rfl rfl (s_190 v1869 (by first | with_reducible assumption | omega) v1874 (by first | with_reducible assumption | omega) v2084 H hI hJ) (fun v2087 H2085 r2086 => ?_)
                                              obtain ⟨rfl, bv2087⟩ := r2086
                                              refine g_if_eq (fun c2088 => ?_) (fun c2088 => ?_)
                                              · refine g_iload rfl ?_
                                                refine g_if_ne (fun c2089 => ?_) (fun c2089 => ?_)
                                                · exfalso; omega
                                                · refine g_iload_n rfl ?_
                                                  refine g_bipush (by decide) (fun v2090 kv2090 => ?_)
                                                  refine g_if2_ne (fun c2091 => ?_) (fun c2091 => ?_)
                                                  · refine g_iload_n rfl ?_
                                                    refine g_bipush (by decide) (fun v2092 kv2092 => ?_)
                                                    refine g_if2_ne (fun c2093 => ?_) (fun c2093 => ?_)
                                                    · refine g_iconst (by decide) (fun v2094 kv2094 => ?_)
                                                      refine g_nop ?_
                                                      exact g_iret ⟨_, rfl, rfl, (fun w n o ew en eo hv => by rw [show w = v1864 from ew.trans tv1864.symm, show n = v1869 from en.trans tv1869.symm, show o = v1874 from eo.trans tv1874.symm]; first | (exfalso; omega) | exact ⟨fun _ => by omega, fun _ => by omega, fun _ => by omega⟩)⟩
                                                    · exfalso; omega
                                                  · exfalso; omega
                                              · refine g_bipush (by decide) (fun v2095 kv2095 => ?_)
                                                exact g_iret ⟨_, rfl, rfl, (fun w n o ew en eo hv => by rw [show w = v1864 from ew.trans tv1864.symm, show n = v1869 from en.trans tv1869.symm, show o = v1874 from eo.trans tv1874.symm]; first | (exfalso; omega) | exact ⟨fun _ => by omega, fun _ => by omega, fun _ => by omega⟩)⟩
                                        · refine g_bipush (by decide) (fun v2096 kv2096 => ?_)
                                          exact g_iret ⟨_, rfl, rfl, (fun w n o ew en eo hv => by rw [show w = v1864 from ew.trans tv1864.symm, show n = v1869 from en.trans tv1869.symm, show o = v1874 from eo.trans tv1874.symm]; first | (exfalso; omega) | exact ⟨fun _ => by omega, fun _ => by omega, fun _ => by omega⟩)⟩
                                    · refine g_aload_n rfl ?_
                                      refine g_gfr hI sm_0 rfl ?_
                                      refine g_iload_n rfl ?_
                                      refine g_baload hI sm_13 rfl (by first | with_reducible assumption | omega) (fun v2097 ev2097 lv2097 uv2097 => ?_)
                                      refine g_if_ne (fun c2098 => ?_) (fun c2098 => ?_)
                                      · refine g_aload_n rfl ?_
                                        refine g_iload_n rfl ?_
                                        refine g_iconst (by decide) (fun v2099 kv2099 => ?_)
                                        refine g_bipush (by decide) (fun v2100 kv2100 => ?_)
                                        refine g_bipush (by decide) (fun v2101 kv2101 => ?_)
                                        refine g_invvi hI sm_0 rfl rfl rfl rfl (s_191 v1864 v2099 v2100 v2101 H hI (JM_n hJ)) (fun v2104 H2102 r2103 => ?_)
                                        obtain ⟨rfl, bv2104⟩ := r2103
                                        refine g_if_eq (fun c2105 => ?_) (fun c2105 => ?_)
                                        · refine g_iload_n rfl ?_
                                          refine g_iconst (by decide) (fun v2106 kv2106 => ?_)
                                          refine g_if2_eq (fun c2107 => ?_) (fun c2107 => ?_)
                                          · exfalso; omega
                                          · refine g_iload_n rfl ?_
                                            refine g_bipush (by decide) (fun v2108 kv2108 => ?_)
                                            refine g_if2_ne (fun c2109 => ?_) (fun c2109 => ?_)
                                            · refine g_iload rfl ?_
                                              refine g_if_ne (fun c2110 => ?_) (fun c2110 => ?_)
                                              · exfalso; omega
                                              · refine g_iload_n rfl ?_
                                                refine g_bipush (by decide) (fun v2111 kv2111 => ?_)
                                                refine g_if2_ne (fun c2112 => ?_) (fun c2112 => ?_)
                                                · refine g_iload_n rfl ?_
                                                  refine g_bipush (by decide) (fun v2113 kv2113 => ?_)
                                                  refine g_if2_ne (fun c2114 => ?_) (fun c2114 => ?_)
                                                  · refine g_iconst (by decide) (fun v2115 kv2115 => ?_)
                                                    refine g_nop ?_
                                                    exact g_iret ⟨_, rfl, rfl, (fun w n o ew en eo hv => by rw [show w = v1864 from ew.trans tv1864.symm, show n = v1869 from en.trans tv1869.symm, show o = v1874 from eo.trans tv1874.symm]; first | (exfalso; omega) | exact ⟨fun _ => by omega, fun _ => by omega, fun _ => by omega⟩)⟩
                                                  · exfalso; omega
                                                · exfalso; omega
                                            · exfalso; omega
                                        · refine g_aload_n rfl ?_
                                          refine g_gfr hI sm_0 rfl ?_
                                          refine g_iload_n rfl ?_
                                          refine g_iaload hI sm_9 rfl (by first | with_reducible assumption | omega) (fun v2116 ev2116 lv2116 uv2116 => ?_)
                                          have qv2116 := JM_in hJ (by first | with_reducible assumption | omega) ev2116
                                          have yv2116 : v2116.toInt = (aZ H 9 v1869.toInt.toNat).toInt := by rw [ev2116]
                                          refine g_bipush (by decide) (fun v2117 kv2117 => ?_)
                                          refine g_if2_eq (fun c2118 => ?_) (fun c2118 => ?_)
                                          · refine g_iload_n rfl ?_
                                            refine g_iconst (by decide) (fun v2119 kv2119 => ?_)
                                            refine g_if2_eq (fun c2120 => ?_) (fun c2120 => ?_)
                                            · exfalso; omega
                                            · refine g_iload_n rfl ?_
                                              refine g_bipush (by decide) (fun v2121 kv2121 => ?_)
                                              refine g_if2_ne (fun c2122 => ?_) (fun c2122 => ?_)
                                              · refine g_iload rfl ?_
                                                refine g_if_ne (fun c2123 => ?_) (fun c2123 => ?_)
                                                · exfalso; omega
                                                · refine g_iload_n rfl ?_
                                                  refine g_bipush (by decide) (fun v2124 kv2124 => ?_)
                                                  refine g_if2_ne (fun c2125 => ?_) (fun c2125 => ?_)
                                                  · refine g_iload_n rfl ?_
                                                    refine g_bipush (by decide) (fun v2126 kv2126 => ?_)
                                                    refine g_if2_ne (fun c2127 => ?_) (fun c2127 => ?_)
                                                    · refine g_iconst (by decide) (fun v2128 kv2128 => ?_)
                                                      refine g_nop ?_
                                                      exact g_iret ⟨_, rfl, rfl, (fun w n o ew en eo hv => by rw [show w = v1864 from ew.trans tv1864.symm, show n = v1869 from en.trans tv1869.symm, show o = v1874 from eo.trans tv1874.symm]; first | (exfalso; omega) | exact ⟨fun _ => by omega, fun _ => by omega, fun _ => by omega⟩)⟩
                                                    · exfalso; omega
                                                  · exfalso; omega
                                              · exfalso; omega
                                          · refine g_bipush (by decide) (fun v2129 kv2129 => ?_)
                                            exact g_iret ⟨_, rfl, rfl, (fun w n o ew en eo hv => by rw [show w = v1864 from ew.trans tv1864.symm, show n = v1869 from en.trans tv1869.symm, show o = v1874 from eo.trans tv1874.symm]; first | (exfalso; omega) | exact ⟨fun _ => by omega, fun _ => by omega, fun _ => by omega⟩)⟩
                                      · refine g_nop ?_
                                        refine g_bipush (by decide) (fun v2130 kv2130 => ?_)
                                        exact g_iret ⟨_, rfl, rfl, (fun w n o ew en eo hv => by rw [show w = v1864 from ew.trans tv1864.symm, show n = v1869 from en.trans tv1869.symm, show o = v1874 from eo.trans tv1874.symm]; first | (exfalso; omega) | exact ⟨fun _ => by omega, fun _ => by omega, fun _ => by omega⟩)⟩
                                  · refine g_aload_n rfl ?_
                                    refine g_gfr hI sm_0 rfl ?_
                                    refine g_iload_n rfl ?_
                                    refine g_baload hI sm_13 rfl (by first | with_reducible assumption | omega) (fun v2131 ev2131 lv2131 uv2131 => ?_)
                                    refine g_if_ne (fun c2132 => ?_) (fun c2132 => ?_)
                                    · refine g_bipush (by decide) (fun v2133 kv2133 => ?_)
                                      exact g_iret ⟨_, rfl, rfl, (fun w n o ew en eo hv => by rw [show w = v1864 from ew.trans tv1864.symm, show n = v1869 from en.trans tv1869.symm, show o = v1874 from eo.trans tv1874.symm]; first | (exfalso; omega) | exact ⟨fun _ => by omega, fun _ => by omega, fun _ => by omega⟩)⟩
                                    · refine g_aload_n rfl ?_
                                      refine g_gfr hI sm_0 rfl ?_
                                      refine g_iload_n rfl ?_
                                      refine g_iaload hI sm_8 rfl (by first | with_reducible assumption | omega) (fun v2134 ev2134 lv2134 uv2134 => ?_)
                                      have yv2134 : v2134.toInt = (aZ H 8 v1869.toInt.toNat).toInt := by rw [ev2134]
                                      refine g_if_eq (fun c2135 => ?_) (fun c2135 => ?_)
                                      · refine g_bipush (by decide) (fun v2136 kv2136 => ?_)
                                        exact g_iret ⟨_, rfl, rfl, (fun w n o ew en eo hv => by rw [show w = v1864 from ew.trans tv1864.symm, show n = v1869 from en.trans tv1869.symm, show o = v1874 from eo.trans tv1874.symm]; first | (exfalso; omega) | exact ⟨fun _ => by omega, fun _ => by omega, fun _ => by omega⟩)⟩
                                      · refine g_nop ?_
                                        refine g_iload_n rfl ?_
                                        refine g_iconst (by decide) (fun v2137 kv2137 => ?_)
                                        refine g_if2_ne (fun c2138 => ?_) (fun c2138 => ?_)
                                        · refine g_aload_n rfl ?_
                                          refine g_iload_n rfl ?_
                                          refine g_iconst (by decide) (fun v2139 kv2139 => ?_)
                                          refine g_bipush (by decide) (fun v2140 kv2140 => ?_)
                                          refine g_bipush (by decide) (fun v2141 kv2141 => ?_)
                                          refine g_invvi hI sm_0 rfl rfl rfl rfl (s_191 v1864 v2139 v2140 v2141 H hI (JM_n hJ)) (fun v2144 H2142 r2143 => ?_)
                                          obtain ⟨rfl, bv2144⟩ := r2143
                                          refine g_if_eq (fun c2145 => ?_) (fun c2145 => ?_)
                                          · refine g_iload_n rfl ?_
                                            refine g_iconst (by decide) (fun v2146 kv2146 => ?_)
                                            refine g_if2_eq (fun c2147 => ?_) (fun c2147 => ?_)
                                            · exfalso; omega
                                            · refine g_iload_n rfl ?_
                                              refine g_bipush (by decide) (fun v2148 kv2148 => ?_)
                                              refine g_if2_ne (fun c2149 => ?_) (fun c2149 => ?_)
                                              · refine g_iload rfl ?_
                                                refine g_if_ne (fun c2150 => ?_) (fun c2150 => ?_)
                                                · exfalso; omega
                                                · refine g_iload_n rfl ?_
                                                  refine g_bipush (by decide) (fun v2151 kv2151 => ?_)
                                                  refine g_if2_ne (fun c2152 => ?_) (fun c2152 => ?_)
                                                  · refine g_iload_n rfl ?_
                                                    refine g_bipush (by decide) (fun v2153 kv2153 => ?_)
                                                    refine g_if2_ne (fun c2154 => ?_) (fun c2154 => ?_)
                                                    · refine g_iconst (by decide) (fun v2155 kv2155 => ?_)
                                                      refine g_nop ?_
                                                      exact g_iret ⟨_, rfl, rfl, (fun w n o ew en eo hv => by rw [show w = v1864 from ew.trans tv1864.symm, show n = v1869 from en.trans tv1869.symm, show o = v1874 from eo.trans tv1874.symm]; first | (exfalso; omega) | exact ⟨fun _ => by omega, fun _ => by omega, fun _ => by omega⟩)⟩
                                                    · exfalso; omega
                                                  · exfalso; omega
                                              · exfalso; omega
                                          · refine g_aload_n rfl ?_
                                            refine g_gfr hI sm_0 rfl ?_
                                            refine g_iload_n rfl ?_
                                            refine g_iaload hI sm_9 rfl (by first | with_reducible assumption | omega) (fun v2156 ev2156 lv2156 uv2156 => ?_)
                                            have qv2156 := JM_in hJ (by first | with_reducible assumption | omega) ev2156
                                            have yv2156 : v2156.toInt = (aZ H 9 v1869.toInt.toNat).toInt := by rw [ev2156]
                                            refine g_bipush (by decide) (fun v2157 kv2157 => ?_)
                                            refine g_if2_eq (fun c2158 => ?_) (fun c2158 => ?_)
                                            · refine g_iload_n rfl ?_
                                              refine g_iconst (by decide) (fun v2159 kv2159 => ?_)
                                              refine g_if2_eq (fun c2160 => ?_) (fun c2160 => ?_)
                                              · exfalso; omega
                                              · refine g_iload_n rfl ?_
                                                refine g_bipush (by decide) (fun v2161 kv2161 => ?_)
                                                refine g_if2_ne (fun c2162 => ?_) (fun c2162 => ?_)
                                                · refine g_iload rfl ?_
                                                  refine g_if_ne (fun c2163 => ?_) (fun c2163 => ?_)
                                                  · exfalso; omega
                                                  · refine g_iload_n rfl ?_
                                                    refine g_bipush (by decide) (fun v2164 kv2164 => ?_)
                                                    refine g_if2_ne (fun c2165 => ?_) (fun c2165 => ?_)
                                                    · refine g_iload_n rfl ?_
                                                      refine g_bipush (by decide) (fun v2166 kv2166 => ?_)
                                                      refine g_if2_ne (fun c2167 => ?_) (fun c2167 => ?_)
                                                      · refine g_iconst (by decide) (fun v2168 kv2168 => ?_)
                                                        refine g_nop ?_
                                                        exact g_iret ⟨_, rfl, rfl, (fun w n o ew en eo hv => by rw [show w = v1864 from ew.trans tv1864.symm, show n = v1869 from en.trans tv1869.symm, show o = v1874 from eo.trans tv1874.symm]; first | (exfalso; omega) | exact ⟨fun _ => by omega, fun _ => by omega, fun _ => by omega⟩)⟩
                                                      · exfalso; omega
                                                    · exfalso; omega
                                                · exfalso; omega
                                            · refine g_bipush (by decide) (fun v2169 kv2169 => ?_)
                                              exact g_iret ⟨_, rfl, rfl, (fun w n o ew en eo hv => by rw [show w = v1864 from ew.trans tv1864.symm, show n = v1869 from en.trans tv1869.symm, show o = v1874 from eo.trans tv1874.symm]; first | (exfalso; omega) | exact ⟨fun _ => by omega, fun _ => by omega, fun _ => by omega⟩)⟩
                                        · exfalso; omega
                                · exfalso; omega
                              · exfalso; omega
                            · exfalso; omega
                  · refine g_aload_n rfl ?_
                    refine g_gfr hI sm_0 rfl ?_
                    refine g_iload_n rfl ?_
                    refine g_iaload hI sm_9 rfl (by first | with_reducible assumption | omega) (fun v2170 ev2170 lv2170 uv2170 => ?_)
                    have qv2170 := JM_in hJ (by first | with_reducible assumption | omega) ev2170
                    have yv2170 : v2170.toInt = (aZ H 9 v1869.toInt.toNat).toInt := by rw [ev2170]
                    refine g_bipush (by decide) (fun v2171 kv2171 => ?_)
                    refine g_if2_ne (fun c2172 => ?_) (fun c2172 => ?_)
                    · refine g_iload_n rfl ?_
                      refine g_iconst (by decide) (fun v2173 kv2173 => ?_)
                      refine g_if2_lt (fun c2174 => ?_) (fun c2174 => ?_)
                      · exfalso; omega
                      · refine g_iload_n rfl ?_
                        refine g_bipush (by decide) (fun v2175 kv2175 => ?_)
                        refine g_if2_gt (fun c2176 => ?_) (fun c2176 => ?_)
                        · exfalso; omega
                        · refine g_iconst (by decide) (fun v2177 kv2177 => ?_)
                          refine g_goto ?_
                          refine g_istore (l' := [(0, .ref 0), (1, .int a1), (2, .int v1864), (3, .int v1869), (4, .int v1874), (5, .int v1878), (6, .int v2177)]) rfl rfl ?_
                          refine g_iload rfl ?_
                          refine g_if_eq (fun c2178 => ?_) (fun c2178 => ?_)
                          · exfalso; omega
                          · refine g_aload_n rfl ?_
                            refine g_gfr hI sm_0 rfl ?_
                            refine g_aload_n rfl ?_
                            refine g_iload_n rfl ?_
                            refine g_invvi hI sm_0 rfl rfl rfl rfl (s_186 v1869 (by first | with_reducible assumption | omega) H hI hJ) (fun v2181 H2179 r2180 => ?_)
                            obtain ⟨rfl, bv2181⟩ := r2180
                            refine g_baload hI sm_15 rfl (by first | with_reducible assumption | omega) (fun v2182 ev2182 lv2182 uv2182 => ?_)
                            refine g_if_ne (fun c2183 => ?_) (fun c2183 => ?_)
                            · refine g_bipush (by decide) (fun v2184 kv2184 => ?_)
                              exact g_iret ⟨_, rfl, rfl, (fun w n o ew en eo hv => by rw [show w = v1864 from ew.trans tv1864.symm, show n = v1869 from en.trans tv1869.symm, show o = v1874 from eo.trans tv1874.symm]; first | (exfalso; omega) | exact ⟨fun _ => by omega, fun _ => by omega, fun _ => by omega⟩)⟩
                            · refine g_nop ?_
                              refine g_iload rfl ?_
                              refine g_if_eq (fun c2185 => ?_) (fun c2185 => ?_)
                              · refine g_iload_n rfl ?_
                                refine g_bipush (by decide) (fun v2186 kv2186 => ?_)
                                refine g_if2_ne (fun c2187 => ?_) (fun c2187 => ?_)
                                · refine g_iload rfl ?_
                                  refine g_if_eq (fun c2188 => ?_) (fun c2188 => ?_)
                                  · refine g_iload_n rfl ?_
                                    refine g_iconst (by decide) (fun v2189 kv2189 => ?_)
                                    refine g_if2_ne (fun c2190 => ?_) (fun c2190 => ?_)
                                    · refine g_iload_n rfl ?_
                                      refine g_iconst (by decide) (fun v2191 kv2191 => ?_)
                                      refine g_if2_ne (fun c2192 => ?_) (fun c2192 => ?_)
                                      · refine g_aload_n rfl ?_
                                        refine g_iload_n rfl ?_
                                        refine g_iconst (by decide) (fun v2193 kv2193 => ?_)
                                        refine g_bipush (by decide) (fun v2194 kv2194 => ?_)
                                        refine g_bipush (by decide) (fun v2195 kv2195 => ?_)
                                        refine g_invvi hI sm_0 rfl rfl rfl rfl (s_191 v1864 v2193 v2194 v2195 H hI (JM_n hJ)) (fun v2198 H2196 r2197 => ?_)
                                        obtain ⟨rfl, bv2198⟩ := r2197
                                        refine g_if_eq (fun c2199 => ?_) (fun c2199 => ?_)
                                        · refine g_iload_n rfl ?_
                                          refine g_iconst (by decide) (fun v2200 kv2200 => ?_)
                                          refine g_if2_eq (fun c2201 => ?_) (fun c2201 => ?_)
                                          · exfalso; omega
                                          · refine g_iload_n rfl ?_
                                            refine g_bipush (by decide) (fun v2202 kv2202 => ?_)
                                            refine g_if2_ne (fun c2203 => ?_) (fun c2203 => ?_)
                                            · refine g_iload rfl ?_
                                              refine g_if_ne (fun c2204 => ?_) (fun c2204 => ?_)
                                              · exfalso; omega
                                              · refine g_iload_n rfl ?_
                                                refine g_bipush (by decide) (fun v2205 kv2205 => ?_)
                                                refine g_if2_ne (fun c2206 => ?_) (fun c2206 => ?_)
                                                · refine g_iload_n rfl ?_
                                                  refine g_bipush (by decide) (fun v2207 kv2207 => ?_)
                                                  refine g_if2_ne (fun c2208 => ?_) (fun c2208 => ?_)
                                                  · refine g_iconst (by decide) (fun v2209 kv2209 => ?_)
                                                    refine g_nop ?_
                                                    exact g_iret ⟨_, rfl, rfl, (fun w n o ew en eo hv => by rw [show w = v1864 from ew.trans tv1864.symm, show n = v1869 from en.trans tv1869.symm, show o = v1874 from eo.trans tv1874.symm]; first | (exfalso; omega) | exact ⟨fun _ => by omega, fun _ => by omega, fun _ => by omega⟩)⟩
                                                  · exfalso; omega
                                                · exfalso; omega
                                            · exfalso; omega
                                        · refine g_aload_n rfl ?_
                                          refine g_gfr hI sm_0 rfl ?_
                                          refine g_iload_n rfl ?_
                                          refine g_ialoadk hI sm_9 rfl (by first | with_reducible assumption | omega) ev2170 ?_
                                          refine g_bipush (by decide) (fun v2210 kv2210 => ?_)
                                          refine g_if2_eq (fun c2211 => ?_) (fun c2211 => ?_)
                                          · exfalso; omega
                                          · refine g_bipush (by decide) (fun v2212 kv2212 => ?_)
                                            exact g_iret ⟨_, rfl, rfl, (fun w n o ew en eo hv => by rw [show w = v1864 from ew.trans tv1864.symm, show n = v1869 from en.trans tv1869.symm, show o = v1874 from eo.trans tv1874.symm]; first | (exfalso; omega) | exact ⟨fun _ => by omega, fun _ => by omega, fun _ => by omega⟩)⟩
                                      · exfalso; omega
                                    · exfalso; omega
                                  · exfalso; omega
                                · exfalso; omega
                              · exfalso; omega
                    · refine g_nop ?_
                      refine g_iconst (by decide) (fun v2213 kv2213 => ?_)
                      exact g_iret ⟨_, rfl, rfl, (fun w n o ew en eo hv => by rw [show w = v1864 from ew.trans tv1864.symm, show n = v1869 from en.trans tv1869.symm, show o = v1874 from eo.trans tv1874.symm]; first | (exfalso; omega) | exact ⟨fun _ => by omega, fun _ => by omega, fun _ => by omega⟩)⟩
                · exfalso; omega
              · exfalso; omega
            · exfalso; omega
        · exfalso; omega
    · refine g_aload_n rfl ?_
      refine g_gfr hI sm_0 rfl ?_
      refine g_iload_n rfl ?_
      refine g_baload hI sm_7 rfl (by first | with_reducible assumption | omega) (fun v2214 ev2214 lv2214 uv2214 => ?_)
      have yv2214 : v2214.toInt = (aZ H 7 v1869.toInt.toNat).toInt := by rw [ev2214]
      refine g_if_eq (fun c2215 => ?_) (fun c2215 => ?_)
      · refine g_iconst (by decide) (fun v2216 kv2216 => ?_)
        refine g_nop ?_
        exact g_iret ⟨_, rfl, rfl, (fun w n o ew en eo hv => by rw [show w = v1864 from ew.trans tv1864.symm, show n = v1869 from en.trans tv1869.symm, show o = v1874 from eo.trans tv1874.symm]; first | (exfalso; omega) | exact ⟨fun _ => by omega, fun _ => by omega, fun _ => by omega⟩)⟩
      · refine g_iconst (by decide) (fun v2217 kv2217 => ?_)
        refine g_goto ?_
        exact g_iret ⟨_, rfl, rfl, (fun w n o ew en eo hv => by rw [show w = v1864 from ew.trans tv1864.symm, show n = v1869 from en.trans tv1869.symm, show o = v1874 from eo.trans tv1874.symm]; first | (exfalso; omega) | exact ⟨fun _ => by omega, fun _ => by omega, fun _ => by omega⟩)⟩
  · refine g_iconst (by decide) (fun v2218 kv2218 => ?_)
    refine g_goto ?_
    refine g_istore (l' := [(0, .ref 0), (1, .int a1), (2, .int v1864), (3, .int v1869), (4, .int v1874), (5, .int v2218)]) rfl rfl ?_
    refine g_iload_n rfl ?_
    refine g_if_ne (fun c2219 => ?_) (fun c2219 => ?_)
    · refine g_aload_n rfl ?_
      refine g_gfr hI sm_0 rfl ?_
      refine g_iload_n rfl ?_
      refine g_baload hI sm_7 rfl (by first | with_reducible assumption | omega) (fun v2220 ev2220 lv2220 uv2220 => ?_)
      have yv2220 : v2220.toInt = (aZ H 7 v1869.toInt.toNat).toInt := by rw [ev2220]
      refine g_if_eq (fun c2221 => ?_) (fun c2221 => ?_)
      · refine g_iconst (by decide) (fun v2222 kv2222 => ?_)
        exact g_iret ⟨_, rfl, rfl, (fun w n o ew en eo hv => by rw [show w = v1864 from ew.trans tv1864.symm, show n = v1869 from en.trans tv1869.symm, show o = v1874 from eo.trans tv1874.symm]; first | (exfalso; omega) | exact ⟨fun _ => by omega, fun _ => by omega, fun _ => by omega⟩)⟩
      · refine g_iload rfl ?_
        refine g_if_eq (fun c2223 => ?_) (fun c2223 => ?_)
        · exfalso; omega
        · refine g_aload_n rfl ?_
          refine g_gfr hI sm_0 rfl ?_
          refine g_iload rfl ?_
          refine g_baload hI sm_7 rfl (by first | with_reducible assumption | omega) (fun v2224 ev2224 lv2224 uv2224 => ?_)
          have yv2224 : v2224.toInt = (aZ H 7 v1874.toInt.toNat).toInt := by rw [ev2224]
          refine g_if_ne (fun c2225 => ?_) (fun c2225 => ?_)
          · refine g_aload_n rfl ?_
            refine g_gfr hI sm_0 rfl ?_
            refine g_iload_n rfl ?_
            refine g_baload hI sm_16 rfl (by first | with_reducible assumption | omega) (fun v2226 ev2226 lv2226 uv2226 => ?_)
            refine g_if_ne (fun c2227 => ?_) (fun c2227 => ?_)
            · refine g_iconst (by decide) (fun v2228 kv2228 => ?_)
              exact g_iret ⟨_, rfl, rfl, (fun w n o ew en eo hv => by rw [show w = v1864 from ew.trans tv1864.symm, show n = v1869 from en.trans tv1869.symm, show o = v1874 from eo.trans tv1874.symm]; first | (exfalso; omega) | exact ⟨fun _ => by omega, fun _ => by omega, fun _ => by omega⟩)⟩
            · refine g_iload rfl ?_
              refine g_if_eq (fun c2229 => ?_) (fun c2229 => ?_)
              · exfalso; omega
              · refine g_aload_n rfl ?_
                refine g_gfr hI sm_0 rfl ?_
                refine g_iload rfl ?_
                refine g_baload hI sm_16 rfl (by first | with_reducible assumption | omega) (fun v2230 ev2230 lv2230 uv2230 => ?_)
                refine g_if_eq (fun c2231 => ?_) (fun c2231 => ?_)
                · refine g_iload rfl ?_
                  refine g_if_eq (fun c2232 => ?_) (fun c2232 => ?_)
                  · exfalso; omega
                  · refine g_aload_n rfl ?_
                    refine g_gfr hI sm_0 rfl ?_
                    refine g_iload rfl ?_
                    refine g_iaload hI sm_8 rfl (by first | with_reducible assumption | omega) (fun v2233 ev2233 lv2233 uv2233 => ?_)
                    have yv2233 : v2233.toInt = (aZ H 8 v1874.toInt.toNat).toInt := by rw [ev2233]
                    refine g_aload_n rfl ?_
                    refine g_gfr hI sm_0 rfl ?_
                    refine g_iload_n rfl ?_
                    refine g_iaload hI sm_8 rfl (by first | with_reducible assumption | omega) (fun v2234 ev2234 lv2234 uv2234 => ?_)
                    have yv2234 : v2234.toInt = (aZ H 8 v1869.toInt.toNat).toInt := by rw [ev2234]
                    refine g_iconst (by decide) (fun v2235 kv2235 => ?_)
                    refine g_iadd (by first | with_reducible assumption | omega) (fun v2236 ev2236 => ?_)
                    refine g_if2_eq (fun c2237 => ?_) (fun c2237 => ?_)
                    · refine g_iload rfl ?_
                      refine g_if_eq (fun c2238 => ?_) (fun c2238 => ?_)
                      · exfalso; omega
                      · refine g_aload_n rfl ?_
                        refine g_gfr hI sm_0 rfl ?_
                        refine g_iload_n rfl ?_
                        refine g_iaload hI sm_9 rfl (by first | with_reducible assumption | omega) (fun v2239 ev2239 lv2239 uv2239 => ?_)
                        have qv2239 := JM_in hJ (by first | with_reducible assumption | omega) ev2239
                        have yv2239 : v2239.toInt = (aZ H 9 v1869.toInt.toNat).toInt := by rw [ev2239]
                        refine g_bipush (by decide) (fun v2240 kv2240 => ?_)
                        refine g_if2_ne (fun c2241 => ?_) (fun c2241 => ?_)
                        · refine g_iconst (by decide) (fun v2242 kv2242 => ?_)
                          exact g_iret ⟨_, rfl, rfl, (fun w n o ew en eo hv => by rw [show w = v1864 from ew.trans tv1864.symm, show n = v1869 from en.trans tv1869.symm, show o = v1874 from eo.trans tv1874.symm]; first | (exfalso; omega) | exact ⟨fun _ => by omega, fun _ => by omega, fun _ => by omega⟩)⟩
                        · refine g_nop ?_
                          refine g_iload_n rfl ?_
                          refine g_iconst (by decide) (fun v2243 kv2243 => ?_)
                          refine g_if2_ne (fun c2244 => ?_) (fun c2244 => ?_)
                          · refine g_iload_n rfl ?_
                            refine g_iconst (by decide) (fun v2245 kv2245 => ?_)
                            refine g_if2_lt (fun c2246 => ?_) (fun c2246 => ?_)
                            · exfalso; omega
                            · refine g_iload_n rfl ?_
                              refine g_bipush (by decide) (fun v2247 kv2247 => ?_)
                              refine g_if2_gt (fun c2248 => ?_) (fun c2248 => ?_)
                              · exfalso; omega
                              · refine g_iconst (by decide) (fun v2249 kv2249 => ?_)
                                refine g_goto ?_
                                refine g_istore (l' := [(0, .ref 0), (1, .int a1), (2, .int v1864), (3, .int v1869), (4, .int v1874), (5, .int v2218), (6, .int v2249)]) rfl rfl ?_
                                refine g_iload rfl ?_
                                refine g_if_eq (fun c2250 => ?_) (fun c2250 => ?_)
                                · exfalso; omega
                                · refine g_aload_n rfl ?_
                                  refine g_gfr hI sm_0 rfl ?_
                                  refine g_aload_n rfl ?_
                                  refine g_iload_n rfl ?_
                                  refine g_invvi hI sm_0 rfl rfl rfl rfl (s_186 v1869 (by first | with_reducible assumption | omega) H hI hJ) (fun v2253 H2251 r2252 => ?_)
                                  obtain ⟨rfl, bv2253⟩ := r2252
                                  refine g_baload hI sm_15 rfl (by first | with_reducible assumption | omega) (fun v2254 ev2254 lv2254 uv2254 => ?_)
                                  refine g_if_ne (fun c2255 => ?_) (fun c2255 => ?_)
                                  · refine g_bipush (by decide) (fun v2256 kv2256 => ?_)
                                    exact g_iret ⟨_, rfl, rfl, (fun w n o ew en eo hv => by rw [show w = v1864 from ew.trans tv1864.symm, show n = v1869 from en.trans tv1869.symm, show o = v1874 from eo.trans tv1874.symm]; first | (exfalso; omega) | exact ⟨fun _ => by omega, fun _ => by omega, fun _ => by omega⟩)⟩
                                  · refine g_nop ?_
                                    refine g_iload rfl ?_
                                    refine g_if_eq (fun c2257 => ?_) (fun c2257 => ?_)
                                    · exfalso; omega
                                    · refine g_aload_n rfl ?_
                                      refine g_gfr hI sm_0 rfl ?_
                                      refine g_aload_n rfl ?_
                                      refine g_iload rfl ?_
                                      refine g_invvi hI sm_0 rfl rfl rfl rfl (s_186 v1874 (by first | with_reducible assumption | omega) H hI hJ) (fun v2260 H2258 r2259 => ?_)
                                      obtain ⟨rfl, bv2260⟩ := r2259
                                      refine g_baload hI sm_15 rfl (by first | with_reducible assumption | omega) (fun v2261 ev2261 lv2261 uv2261 => ?_)
                                      refine g_if_eq (fun c2262 => ?_) (fun c2262 => ?_)
                                      · refine g_iload_n rfl ?_
                                        refine g_bipush (by decide) (fun v2263 kv2263 => ?_)
                                        refine g_if2_ne (fun c2264 => ?_) (fun c2264 => ?_)
                                        · refine g_iload rfl ?_
                                          refine g_if_eq (fun c2265 => ?_) (fun c2265 => ?_)
                                          · exfalso; omega
                                          · refine g_aload_n rfl ?_
                                            refine g_gfr hI sm_0 rfl ?_
                                            refine g_iload_n rfl ?_
                                            refine g_iaload hI sm_10 rfl (by first | with_reducible assumption | omega) (fun v2266 ev2266 lv2266 uv2266 => ?_)
                                            refine g_aload_n rfl ?_
                                            refine g_gfr hI sm_0 rfl ?_
                                            refine g_aload_n rfl ?_
                                            refine g_iload rfl ?_
                                            refine g_invvi hI sm_0 rfl rfl rfl rfl (s_186 v1874 (by first | with_reducible assumption | omega) H hI hJ) (fun v2269 H2267 r2268 => ?_)
                                            obtain ⟨rfl, bv2269⟩ := r2268
                                            refine g_iaload hI sm_10 rfl (by first | with_reducible assumption | omega) (fun v2270 ev2270 lv2270 uv2270 => ?_)
                                            refine g_if2_ne (fun c2271 => ?_) (fun c2271 => ?_)
                                            · refine g_bipush (by decide) (fun v2272 kv2272 => ?_)
                                              exact g_iret ⟨_, rfl, rfl, (fun w n o ew en eo hv => by rw [show w = v1864 from ew.trans tv1864.symm, show n = v1869 from en.trans tv1869.symm, show o = v1874 from eo.trans tv1874.symm]; first | (exfalso; omega) | exact ⟨fun _ => by omega, fun _ => by omega, fun _ => by omega⟩)⟩
                                            · refine g_aload_n rfl ?_
                                              refine g_iload rfl ?_
                                              refine g_invvi hI sm_0 rfl rfl rfl rfl (s_189 v1874 H hI (JM_n hJ)) (fun v2275 H2273 r2274 => ?_)
                                              obtain rfl := r2274
                                              refine g_aload_n rfl ?_
                                              refine g_gfr hI sm_0 rfl ?_
                                              refine g_iconst (by decide) (fun v2276 kv2276 => ?_)
                                              refine g_aload_n rfl ?_
                                              refine g_gfr hI sm_0 rfl ?_
                                              refine g_iload rfl ?_
                                              refine g_ialoadk hI sm_8 rfl (by first | with_reducible assumption | omega) ev2233 ?_
                                              refine g_iadd (by first | with_reducible assumption | omega) (fun v2277 ev2277 => ?_)
                                              refine g_iconst (by decide) (fun v2278 kv2278 => ?_)
                                              refine g_isub (by first | with_reducible assumption | omega) (fun v2279 ev2279 => ?_)
                                              refine g_iaload hI sm_2 rfl (by first | with_reducible assumption | omega) (fun v2280 ev2280 lv2280 uv2280 => ?_)
                                              refine g_if2_lt (fun c2281 => ?_) (fun c2281 => ?_)
                                              · refine g_iload_n rfl ?_
                                                refine g_iconst (by decide) (fun v2282 kv2282 => ?_)
                                                refine g_if2_ne (fun c2283 => ?_) (fun c2283 => ?_)
                                                · refine g_iload_n rfl ?_
                                                  refine g_iconst (by decide) (fun v2284 kv2284 => ?_)
                                                  refine g_if2_ne (fun c2285 => ?_) (fun c2285 => ?_)
                                                  · refine g_aload_n rfl ?_
                                                    refine g_iload_n rfl ?_
                                                    refine g_iconst (by decide) (fun v2286 kv2286 => ?_)
                                                    refine g_bipush (by decide) (fun v2287 kv2287 => ?_)
                                                    refine g_bipush (by decide) (fun v2288 kv2288 => ?_)
                                                    refine g_invvi hI sm_0 rfl rfl rfl rfl (s_191 v1864 v2286 v2287 v2288 H hI (JM_n hJ)) (fun v2291 H2289 r2290 => ?_)
                                                    obtain ⟨rfl, bv2291⟩ := r2290
                                                    refine g_if_eq (fun c2292 => ?_) (fun c2292 => ?_)
                                                    · refine g_iload_n rfl ?_
                                                      refine g_iconst (by decide) (fun v2293 kv2293 => ?_)
                                                      refine g_if2_eq (fun c2294 => ?_) (fun c2294 => ?_)
                                                      · exfalso; omega
                                                      · refine g_iload_n rfl ?_
                                                        refine g_bipush (by decide) (fun v2295 kv2295 => ?_)
                                                        refine g_if2_ne (fun c2296 => ?_) (fun c2296 => ?_)
                                                        · refine g_iload rfl ?_
                                                          refine g_if_ne (fun c2297 => ?_) (fun c2297 => ?_)
                                                          · refine g_aload_n rfl ?_
                                                            refine g_iload_n rfl ?_
                                                            refine g_invvi hI sm_0 rfl rfl rfl rfl (s_188 v1869 H hI hJ) (fun v2300 H2298 r2299 => ?_)
                                                            obtain ⟨rfl, bv2300⟩ := r2299
                                                            refine g_if_eq (fun c2301 => ?_) (fun c2301 => ?_)
                                                            · refine g_iload_n rfl ?_
                                                              refine g_bipush (by decide) (fun v2302 kv2302 => ?_)
                                                              refine g_if2_ne (fun c2303 => ?_) (fun c2303 => ?_)
                                                              · refine g_iconst (by decide) (fun v2304 kv2304 => ?_)
                                                                refine g_nop ?_
                                                                exact g_iret ⟨_, rfl, rfl, (fun w n o ew en eo hv => by rw [show w = v1864 from ew.trans tv1864.symm, show n = v1869 from en.trans tv1869.symm, show o = v1874 from eo.trans tv1874.symm]; first | (exfalso; omega) | exact ⟨fun _ => by omega, fun _ => by omega, fun _ => by omega⟩)⟩
                                                              · exfalso; omega
                                                            · refine g_bipush (by decide) (fun v2305 kv2305 => ?_)
                                                              exact g_iret ⟨_, rfl, rfl, (fun w n o ew en eo hv => by rw [show w = v1864 from ew.trans tv1864.symm, show n = v1869 from en.trans tv1869.symm, show o = v1874 from eo.trans tv1874.symm]; first | (exfalso; omega) | exact ⟨fun _ => by omega, fun _ => by omega, fun _ => by omega⟩)⟩
                                                          · exfalso; omega
                                                        · exfalso; omega
                                                    · refine g_aload_n rfl ?_
                                                      refine g_gfr hI sm_0 rfl ?_
                                                      refine g_iload_n rfl ?_
                                                      refine g_ialoadk hI sm_9 rfl (by first | with_reducible assumption | omega) ev2239 ?_
                                                      refine g_bipush (by decide) (fun v2306 kv2306 => ?_)
                                                      refine g_if2_eq (fun c2307 => ?_) (fun c2307 => ?_)
                                                      · refine g_iload_n rfl ?_
                                                        refine g_iconst (by decide) (fun v2308 kv2308 => ?_)
                                                        refine g_if2_eq (fun c2309 => ?_) (fun c2309 => ?_)
                                                        · exfalso; omega
                                                        · refine g_iload_n rfl ?_
                                                          refine g_bipush (by decide) (fun v2310 kv2310 => ?_)
                                                          refine g_if2_ne (fun c2311 => ?_) (fun c2311 => ?_)
                                                          · refine g_iload rfl ?_
                                                            refine g_if_ne (fun c2312 => ?_) (fun c2312 => ?_)
                                                            · refine g_aload_n rfl ?_
                                                              refine g_iload_n rfl ?_
                                                              refine g_invvi hI sm_0 rfl rfl rfl rfl (s_188 v1869 H hI hJ) (fun v2315 H2313 r2314 => ?_)
                                                              obtain ⟨rfl, bv2315⟩ := r2314
                                                              refine g_if_eq (fun c2316 => ?_) (fun c2316 => ?_)
                                                              · refine g_iload_n rfl ?_
                                                                refine g_bipush (by decide) (fun v2317 kv2317 => ?_)
                                                                refine g_if2_ne (fun c2318 => ?_) (fun c2318 => ?_)
                                                                · refine g_iconst (by decide) (fun v2319 kv2319 => ?_)
                                                                  refine g_nop ?_
                                                                  exact g_iret ⟨_, rfl, rfl, (fun w n o ew en eo hv => by rw [show w = v1864 from ew.trans tv1864.symm, show n = v1869 from en.trans tv1869.symm, show o = v1874 from eo.trans tv1874.symm]; first | (exfalso; omega) | exact ⟨fun _ => by omega, fun _ => by omega, fun _ => by omega⟩)⟩
                                                                · exfalso; omega
                                                              · refine g_bipush (by decide) (fun v2320 kv2320 => ?_)
                                                                exact g_iret ⟨_, rfl, rfl, (fun w n o ew en eo hv => by rw [show w = v1864 from ew.trans tv1864.symm, show n = v1869 from en.trans tv1869.symm, show o = v1874 from eo.trans tv1874.symm]; first | (exfalso; omega) | exact ⟨fun _ => by omega, fun _ => by omega, fun _ => by omega⟩)⟩
                                                            · exfalso; omega
                                                          · exfalso; omega
                                                      · exfalso; omega
                                                  · exfalso; omega
                                                · exfalso; omega
                                              · refine g_nop ?_
                                                refine g_bipush (by decide) (fun v2321 kv2321 => ?_)
                                                exact g_iret ⟨_, rfl, rfl, (fun w n o ew en eo hv => by rw [show w = v1864 from ew.trans tv1864.symm, show n = v1869 from en.trans tv1869.symm, show o = v1874 from eo.trans tv1874.symm]; first | (exfalso; omega) | exact ⟨fun _ => by omega, fun _ => by omega, fun _ => by omega⟩)⟩
                                        · exfalso; omega
                                      · refine g_nop ?_
                                        refine g_bipush (by decide) (fun v2322 kv2322 => ?_)
                                        exact g_iret ⟨_, rfl, rfl, (fun w n o ew en eo hv => by rw [show w = v1864 from ew.trans tv1864.symm, show n = v1869 from en.trans tv1869.symm, show o = v1874 from eo.trans tv1874.symm]; first | (exfalso; omega) | exact ⟨fun _ => by omega, fun _ => by omega, fun _ => by omega⟩)⟩
                          · exfalso; omega
                    · refine g_iconst (by decide) (fun v2323 kv2323 => ?_)
                      exact g_iret ⟨_, rfl, rfl, (fun w n o ew en eo hv => by rw [show w = v1864 from ew.trans tv1864.symm, show n = v1869 from en.trans tv1869.symm, show o = v1874 from eo.trans tv1874.symm]; first | (exfalso; omega) | exact ⟨fun _ => by omega, fun _ => by omega, fun _ => by omega⟩)⟩
                · refine g_nop ?_
                  refine g_iconst (by decide) (fun v2324 kv2324 => ?_)
                  exact g_iret ⟨_, rfl, rfl, (fun w n o ew en eo hv => by rw [show w = v1864 from ew.trans tv1864.symm, show n = v1869 from en.trans tv1869.symm, show o = v1874 from eo.trans tv1874.symm]; first | (exfalso; omega) | exact ⟨fun _ => by omega, fun _ => by omega, fun _ => by omega⟩)⟩
          · refine g_nop ?_
            refine g_iconst (by decide) (fun v2325 kv2325 => ?_)
            exact g_iret ⟨_, rfl, rfl, (fun w n o ew en eo hv => by rw [show w = v1864 from ew.trans tv1864.symm, show n = v1869 from en.trans tv1869.symm, show o = v1874 from eo.trans tv1874.symm]; first | (exfalso; omega) | exact ⟨fun _ => by omega, fun _ => by omega, fun _ => by omega⟩)⟩
    · exfalso; omega
set_option maxRecDepth 4000 in
set_option maxHeartbeats 4000000 in
/-- M.lies -/
theorem s_194 (a1 : Int32) (ha1 : 0 ≤ a1.toInt ∧ a1.toInt ≤ 39) (a2 : Int32) (ha2 : 0 ≤ a2.toInt ∧ a2.toInt ≤ 7) (a3 : Int32) (H : mzH) (hI : gI SM H) (hJ : JM H) : gCall 194 [.ref 0, .int a1, .int a2, .int a3] H (gRv (fun H' => gI SM H' ∧ JM H' ∧ (∀ a f, fZ H' a f = fZ H a f) ∧ (∀ i, aZ H' 2 i = aZ H 2 i) ∧ (∀ i, aZ H' 19 i = aZ H 19 i) ∧ (∀ i, aZ H' 17 i = aZ H 17 i) ∧ kpM H H')) := by
  have mkF : ∀ a f, fZ H a f = fZ H a f := fun _ _ => rfl
  have mk2 : ∀ i, aZ H 2 i = aZ H 2 i := fun _ => rfl
  have mk19 : ∀ i, aZ H 19 i = aZ H 19 i := fun _ => rfl
  have mk17 : ∀ i, aZ H 17 i = aZ H 17 i := fun _ => rfl
  have mkfr : kpM H H := kpM_r
  refine gG_call [(0, .ref 0), (1, .int a1), (2, .int a2), (3, .int a3)] ⟨rfl, rfl, rfl, rfl, trivial⟩ ?_
  show gG 4 zB_194 (mzBlk zB_194 0) [(0, .ref 0), (1, .int a1), (2, .int a2), (3, .int a3)] [] H 0 0 _
  refine g_aload_n rfl ?_
  refine g_gfr hI sm_0 rfl ?_
  refine g_iload_n rfl ?_
  refine g_iload_n rfl ?_
  refine g_iastore hI sm_10 (by first | with_reducible assumption | omega) (by first | with_reducible assumption | omega) (fun H49 eH49 hIH49 => ?_)
  have hJH49 : JM H49 := JM_sA (by decide) eH49 hJ
  have m50 : ∀ a f, fZ H49 a f = fZ H a f := fun a f => (by rw [eH49, fZ_sA] : fZ H49 a f = fZ H a f).trans (mkF a f)
  have m51 : ∀ i, aZ H49 2 i = aZ H 2 i := fun i => (by rw [eH49, aZ_sA_nc (by first | with_reducible assumption | omega)] : aZ H49 2 i = aZ H 2 i).trans (mk2 i)
  have m52 : ∀ i, aZ H49 19 i = aZ H 19 i := fun i => (by rw [eH49, aZ_sA_nc (by first | with_reducible assumption | omega)] : aZ H49 19 i = aZ H 19 i).trans (mk19 i)
  have m53 : ∀ i, aZ H49 17 i = aZ H 17 i := fun i => (by rw [eH49, aZ_sA_nc (by first | with_reducible assumption | omega)] : aZ H49 17 i = aZ H 17 i).trans (mk17 i)
  have m54 : kpM H H49 := kpM_A mkfr eH49 (by first | with_reducible assumption | omega)
  refine g_aload_n rfl ?_
  refine g_gfr hIH49 sm_0 rfl ?_
  refine g_iload_n rfl ?_
  refine g_iload_n rfl ?_
  refine g_iastore hIH49 sm_11 (by first | with_reducible assumption | omega) (gz_any _) (fun H55 eH55 hIH55 => ?_)
  have hJH55 : JM H55 := JM_sA (by decide) eH55 hJH49
  have m56 : ∀ a f, fZ H55 a f = fZ H a f := fun a f => (by rw [eH55, fZ_sA] : fZ H55 a f = fZ H49 a f).trans (m50 a f)
  have m57 : ∀ i, aZ H55 2 i = aZ H 2 i := fun i => (by rw [eH55, aZ_sA_nc (by first | with_reducible assumption | omega)] : aZ H55 2 i = aZ H49 2 i).trans (m51 i)
  have m58 : ∀ i, aZ H55 19 i = aZ H 19 i := fun i => (by rw [eH55, aZ_sA_nc (by first | with_reducible assumption | omega)] : aZ H55 19 i = aZ H49 19 i).trans (m52 i)
  have m59 : ∀ i, aZ H55 17 i = aZ H 17 i := fun i => (by rw [eH55, aZ_sA_nc (by first | with_reducible assumption | omega)] : aZ H55 17 i = aZ H49 17 i).trans (m53 i)
  have m60 : kpM H H55 := kpM_A m54 eH55 (by first | with_reducible assumption | omega)
  exact g_ret ⟨rfl, hIH55, hJH55, m56, m57, m58, m59, m60⟩
set_option maxRecDepth 4000 in
set_option maxHeartbeats 4000000 in
/-- M.comesOut -/
theorem s_196 (a1 : Int32) (ha1 : 0 ≤ a1.toInt ∧ a1.toInt ≤ 39) (a2 : Int32) (ha2 : 0 ≤ a2.toInt ∧ a2.toInt ≤ 7) (a3 : Int32) (H : mzH) (hI : gI SM H) (hJ : JM H) (hp0 : ¬ (aZ H 9 a1.toInt.toNat).toInt = -5) : gCall 196 [.ref 0, .int a1, .int a2, .int a3] H (gRv (fun H' => gI SM H' ∧ JM H' ∧ (∀ a f, fZ H' a f = fZ H a f) ∧ (∀ i, aZ H' 2 i = aZ H 2 i) ∧ (∀ i, aZ H' 19 i = aZ H 19 i) ∧ (∀ i, aZ H' 17 i = aZ H 17 i) ∧ kpM H H')) := by
  have mkF : ∀ a f, fZ H a f = fZ H a f := fun _ _ => rfl
  have mk2 : ∀ i, aZ H 2 i = aZ H 2 i := fun _ => rfl
  have mk19 : ∀ i, aZ H 19 i = aZ H 19 i := fun _ => rfl
  have mk17 : ∀ i, aZ H 17 i = aZ H 17 i := fun _ => rfl
  have mkfr : kpM H H := kpM_r
  refine gG_call [(0, .ref 0), (1, .int a1), (2, .int a2), (3, .int a3)] ⟨rfl, rfl, rfl, rfl, trivial⟩ ?_
  show gG 4 zB_196 (mzBlk zB_196 0) [(0, .ref 0), (1, .int a1), (2, .int a2), (3, .int a3)] [] H 0 0 _
  refine g_aload_n rfl ?_
  refine g_gfr hI sm_0 rfl ?_
  refine g_aload_n rfl ?_
  refine g_gfr hI sm_0 rfl ?_
  refine g_iload_n rfl ?_
  refine g_iaload hI sm_9 rfl (by first | with_reducible assumption | omega) (fun v109 ev109 lv109 uv109 => ?_)
  have qv109 := JM_in hJ (by first | with_reducible assumption | omega) ev109
  have yv109 : v109.toInt = (aZ H 9 a1.toInt.toNat).toInt := by rw [ev109]
  refine g_iconst (by decide) (fun v110 kv110 => ?_)
  refine g_zastore hI sm_13 (by first | with_reducible assumption | omega) (by first | with_reducible assumption | omega) (fun H111 eH111 hIH111 => ?_)
  have hJH111 : JM H111 := JM_sA (by decide) eH111 hJ
  have m112 : ∀ a f, fZ H111 a f = fZ H a f := fun a f => (by rw [eH111, fZ_sA] : fZ H111 a f = fZ H a f).trans (mkF a f)
  have m113 : ∀ i, aZ H111 2 i = aZ H 2 i := fun i => (by rw [eH111, aZ_sA_nc (by first | with_reducible assumption | omega)] : aZ H111 2 i = aZ H 2 i).trans (mk2 i)
  have m114 : ∀ i, aZ H111 19 i = aZ H 19 i := fun i => (by rw [eH111, aZ_sA_nc (by first | with_reducible assumption | omega)] : aZ H111 19 i = aZ H 19 i).trans (mk19 i)
  have m115 : ∀ i, aZ H111 17 i = aZ H 17 i := fun i => (by rw [eH111, aZ_sA_nc (by first | with_reducible assumption | omega)] : aZ H111 17 i = aZ H 17 i).trans (mk17 i)
  have m116 : kpM H H111 := kpM_A mkfr eH111 (by first | with_reducible assumption | omega)
  refine g_aload_n rfl ?_
  refine g_gfr hIH111 sm_0 rfl ?_
  refine g_iload_n rfl ?_
  refine g_bipush (by decide) (fun v117 kv117 => ?_)
  refine g_iastore hIH111 sm_9 (by first | with_reducible assumption | omega) (by first | with_reducible assumption | omega) (fun H118 eH118 hIH118 => ?_)
  have hJH118 : JM H118 := JM_out hIH111 hJH111 (by first | with_reducible assumption | omega) (by first | with_reducible assumption | omega) eH118
  have m119 : ∀ a f, fZ H118 a f = fZ H a f := fun a f => (by rw [eH118, fZ_sA] : fZ H118 a f = fZ H111 a f).trans (m112 a f)
  have m120 : ∀ i, aZ H118 2 i = aZ H 2 i := fun i => (by rw [eH118, aZ_sA_nc (by first | with_reducible assumption | omega)] : aZ H118 2 i = aZ H111 2 i).trans (m113 i)
  have m121 : ∀ i, aZ H118 19 i = aZ H 19 i := fun i => (by rw [eH118, aZ_sA_nc (by first | with_reducible assumption | omega)] : aZ H118 19 i = aZ H111 19 i).trans (m114 i)
  have m122 : ∀ i, aZ H118 17 i = aZ H 17 i := fun i => (by rw [eH118, aZ_sA_nc (by first | with_reducible assumption | omega)] : aZ H118 17 i = aZ H111 17 i).trans (m115 i)
  have m123 : kpM H H118 := kpM_A m116 eH118 (by first | with_reducible assumption | omega)
  refine g_aload_n rfl ?_
  refine g_iload_n rfl ?_
  refine g_iload_n rfl ?_
  refine g_iload_n rfl ?_
  refine g_invvv hIH118 sm_0 rfl rfl rfl rfl (s_194 a1 (by first | with_reducible assumption | omega) a2 (by first | with_reducible assumption | omega) a3 H118 hIH118 hJH118) (fun H124 r125 => ?_)
  obtain ⟨hIH124, hJH124, m126, m127, m128, m129, m130⟩ := r125
  have m131 : ∀ a f, fZ H124 a f = fZ H a f := fun a f => (m126 a f).trans (m119 a f)
  have m132 : ∀ i, aZ H124 2 i = aZ H 2 i := fun i => (m127 i).trans (m120 i)
  have m133 : ∀ i, aZ H124 19 i = aZ H 19 i := fun i => (m128 i).trans (m121 i)
  have m134 : ∀ i, aZ H124 17 i = aZ H 17 i := fun i => (m129 i).trans (m122 i)
  have m135 : kpM H H124 := kpM_t m123 m130
  exact g_ret ⟨rfl, hIH124, hJH124, m131, m132, m133, m134, m135⟩
set_option maxRecDepth 4000 in
set_option maxHeartbeats 4000000 in
/-- M.scans -/
theorem s_197 (a1 : Int32) (ha1 : 0 ≤ a1.toInt ∧ a1.toInt ≤ 39) (a2 : Int32) (ha2 : 0 ≤ a2.toInt ∧ a2.toInt ≤ 7) (a3 : Int32) (H : mzH) (hI : gI SM H) (hJ : JM H) : gCall 197 [.ref 0, .int a1, .int a2, .int a3] H (gRv (fun H' => gI SM H' ∧ JM H' ∧ (∀ a f, fZ H' a f = fZ H a f) ∧ (∀ i, aZ H' 2 i = aZ H 2 i) ∧ (∀ i, aZ H' 19 i = aZ H 19 i) ∧ (∀ i, aZ H' 17 i = aZ H 17 i) ∧ kpM H H')) := by
  have mkF : ∀ a f, fZ H a f = fZ H a f := fun _ _ => rfl
  have mk2 : ∀ i, aZ H 2 i = aZ H 2 i := fun _ => rfl
  have mk19 : ∀ i, aZ H 19 i = aZ H 19 i := fun _ => rfl
  have mk17 : ∀ i, aZ H 17 i = aZ H 17 i := fun _ => rfl
  have mkfr : kpM H H := kpM_r
  refine gG_call [(0, .ref 0), (1, .int a1), (2, .int a2), (3, .int a3)] ⟨rfl, rfl, rfl, rfl, trivial⟩ ?_
  show gG 6 zB_197 (mzBlk zB_197 0) [(0, .ref 0), (1, .int a1), (2, .int a2), (3, .int a3)] [] H 0 0 _
  refine g_aload_n rfl ?_
  refine g_gfr hI sm_0 rfl ?_
  refine g_iload_n rfl ?_
  refine g_iload_n rfl ?_
  refine g_iastore hI sm_12 (by first | with_reducible assumption | omega) (gz_any _) (fun H221 eH221 hIH221 => ?_)
  have hJH221 : JM H221 := JM_sA (by decide) eH221 hJ
  have m222 : ∀ a f, fZ H221 a f = fZ H a f := fun a f => (by rw [eH221, fZ_sA] : fZ H221 a f = fZ H a f).trans (mkF a f)
  have m223 : ∀ i, aZ H221 2 i = aZ H 2 i := fun i => (by rw [eH221, aZ_sA_nc (by first | with_reducible assumption | omega)] : aZ H221 2 i = aZ H 2 i).trans (mk2 i)
  have m224 : ∀ i, aZ H221 19 i = aZ H 19 i := fun i => (by rw [eH221, aZ_sA_nc (by first | with_reducible assumption | omega)] : aZ H221 19 i = aZ H 19 i).trans (mk19 i)
  have m225 : ∀ i, aZ H221 17 i = aZ H 17 i := fun i => (by rw [eH221, aZ_sA_nc (by first | with_reducible assumption | omega)] : aZ H221 17 i = aZ H 17 i).trans (mk17 i)
  have m226 : kpM H H221 := kpM_A mkfr eH221 (by first | with_reducible assumption | omega)
  refine g_aload_n rfl ?_
  refine g_iload_n rfl ?_
  refine g_invvi hIH221 sm_0 rfl rfl rfl rfl (s_186 a1 (by first | with_reducible assumption | omega) H221 hIH221 hJH221) (fun v229 H227 r228 => ?_)
  obtain ⟨rfl, bv229⟩ := r228
  refine g_istore (l' := [(0, .ref 0), (1, .int a1), (2, .int a2), (3, .int a3), (4, .int v229)]) rfl rfl ?_
  refine g_aload_n rfl ?_
  refine g_gfr hIH221 sm_0 rfl ?_
  refine g_iload rfl ?_
  refine g_iaload hIH221 sm_10 rfl (by first | with_reducible assumption | omega) (fun v230 ev230 lv230 uv230 => ?_)
  refine g_iload_n rfl ?_
  refine g_if2_ne (fun c231 => ?_) (fun c231 => ?_)
  · refine g_iload_n rfl ?_
    refine g_istore (l' := [(0, .ref 0), (1, .int a1), (2, .int a2), (3, .int a3), (4, .int v229), (5, .int a1)]) rfl rfl ?_
    refine g_nop ?_
    have L233 : ∀ (N : Nat) (v232 : Int32), (0 ≤ v232.toInt ∧ v232.toInt ≤ 39) → mK H221 v232 < N → gG 6 zB_197 (mzBlk zB_197 2) [(0, .ref 0), (1, .int a1), (2, .int a2), (3, .int a3), (4, .int v229), (5, .int v232)] [] H221 0 0 (gRv (fun H' => gI SM H' ∧ JM H' ∧ (∀ a f, fZ H' a f = fZ H a f) ∧ (∀ i, aZ H' 2 i = aZ H 2 i) ∧ (∀ i, aZ H' 19 i = aZ H 19 i) ∧ (∀ i, aZ H' 17 i = aZ H 17 i) ∧ kpM H H')) := by
      intro N
      induction N with
      | zero => intro v232 bv232 hmL233; exact absurd hmL233 (Nat.not_lt_zero _)
      | succ N ihL233 =>
        intro v232 bv232 hmL233
        refine g_aload_n rfl ?_
        refine g_gfr hIH221 sm_0 rfl ?_
        refine g_iload rfl ?_
        refine g_iaload hIH221 sm_9 rfl (by first | with_reducible assumption | omega) (fun v234 ev234 lv234 uv234 => ?_)
        have qv234 := JM_in hJH221 (by first | with_reducible assumption | omega) ev234
        have yv234 : v234.toInt = (aZ H221 9 v232.toInt.toNat).toInt := by rw [ev234]
        refine g_bipush (by decide) (fun v235 kv235 => ?_)
        refine g_if2_eq (fun c236 => ?_) (fun c236 => ?_)
        · refine g_aload_n rfl ?_
          refine g_gfr hIH221 sm_0 rfl ?_
          refine g_iload rfl ?_
          refine g_ialoadk hIH221 sm_9 rfl (by first | with_reducible assumption | omega) ev234 ?_
          refine g_bipush (by decide) (fun v237 kv237 => ?_)
          refine g_if2_eq (fun c238 => ?_) (fun c238 => ?_)
          · refine g_aload_n rfl ?_
            refine g_iload rfl ?_
            refine g_iload_n rfl ?_
            refine g_iload_n rfl ?_
            refine g_invvv hIH221 sm_0 rfl rfl rfl rfl (s_194 v229 (by first | with_reducible assumption | omega) a2 (by first | with_reducible assumption | omega) a3 H221 hIH221 hJH221) (fun H239 r240 => ?_)
            obtain ⟨hIH239, hJH239, m241, m242, m243, m244, m245⟩ := r240
            have m246 : ∀ a f, fZ H239 a f = fZ H a f := fun a f => (m241 a f).trans (m222 a f)
            have m247 : ∀ i, aZ H239 2 i = aZ H 2 i := fun i => (m242 i).trans (m223 i)
            have m248 : ∀ i, aZ H239 19 i = aZ H 19 i := fun i => (m243 i).trans (m224 i)
            have m249 : ∀ i, aZ H239 17 i = aZ H 17 i := fun i => (m244 i).trans (m225 i)
            have m250 : kpM H H239 := kpM_t m226 m245
            refine g_nop ?_
            exact g_ret ⟨rfl, hIH239, hJH239, m246, m247, m248, m249, m250⟩
          · exfalso; omega
        · refine g_aload_n rfl ?_
          refine g_gfr hIH221 sm_0 rfl ?_
          refine g_aload_n rfl ?_
          refine g_gfr hIH221 sm_0 rfl ?_
          refine g_iload rfl ?_
          refine g_ialoadk hIH221 sm_9 rfl (by first | with_reducible assumption | omega) ev234 ?_
          refine g_baload hIH221 sm_13 rfl (by first | with_reducible assumption | omega) (fun v251 ev251 lv251 uv251 => ?_)
          refine g_if_ne (fun c252 => ?_) (fun c252 => ?_)
          · refine g_aload_n rfl ?_
            refine g_gfr hIH221 sm_0 rfl ?_
            refine g_iload rfl ?_
            refine g_ialoadk hIH221 sm_9 rfl (by first | with_reducible assumption | omega) ev234 ?_
            refine g_bipush (by decide) (fun v253 kv253 => ?_)
            refine g_if2_eq (fun c254 => ?_) (fun c254 => ?_)
            · exfalso; omega
            · refine g_aload_n rfl ?_
              refine g_iload rfl ?_
              refine g_iload_n rfl ?_
              refine g_iload_n rfl ?_
              refine g_invvv hIH221 sm_0 rfl rfl rfl rfl (s_196 v232 (by first | with_reducible assumption | omega) a2 (by first | with_reducible assumption | omega) a3 H221 hIH221 hJH221 (by first | with_reducible assumption | omega)) (fun H255 r256 => ?_)
              obtain ⟨hIH255, hJH255, m257, m258, m259, m260, m261⟩ := r256
              have m262 : ∀ a f, fZ H255 a f = fZ H a f := fun a f => (m257 a f).trans (m222 a f)
              have m263 : ∀ i, aZ H255 2 i = aZ H 2 i := fun i => (m258 i).trans (m223 i)
              have m264 : ∀ i, aZ H255 19 i = aZ H 19 i := fun i => (m259 i).trans (m224 i)
              have m265 : ∀ i, aZ H255 17 i = aZ H 17 i := fun i => (m260 i).trans (m225 i)
              have m266 : kpM H H255 := kpM_t m226 m261
              refine g_goto ?_
              exact g_ret ⟨rfl, hIH255, hJH255, m262, m263, m264, m265, m266⟩
          · refine g_aload_n rfl ?_
            refine g_gfr hIH221 sm_0 rfl ?_
            refine g_iload rfl ?_
            refine g_ialoadk hIH221 sm_9 rfl (by first | with_reducible assumption | omega) ev234 ?_
            refine g_istore (l' := [(0, .ref 0), (1, .int a1), (2, .int a2), (3, .int a3), (4, .int v229), (5, .int v234)]) rfl rfl ?_
            refine g_goto ?_
            exact ihL233 v234 (by first | with_reducible assumption | omega) (mK_up hIH221 hJH221 (by first | with_reducible assumption | omega) ev234 hmL233)
    exact L233 _ a1 (by first | with_reducible assumption | omega) (Nat.lt_succ_self _)
  · refine g_aload_n rfl ?_
    refine g_gfr hIH221 sm_0 rfl ?_
    refine g_iload rfl ?_
    refine g_iload_n rfl ?_
    refine g_iastore hIH221 sm_11 (by first | with_reducible assumption | omega) (gz_any _) (fun H267 eH267 hIH267 => ?_)
    have hJH267 : JM H267 := JM_sA (by decide) eH267 hJH221
    have m268 : ∀ a f, fZ H267 a f = fZ H a f := fun a f => (by rw [eH267, fZ_sA] : fZ H267 a f = fZ H221 a f).trans (m222 a f)
    have m269 : ∀ i, aZ H267 2 i = aZ H 2 i := fun i => (by rw [eH267, aZ_sA_nc (by first | with_reducible assumption | omega)] : aZ H267 2 i = aZ H221 2 i).trans (m223 i)
    have m270 : ∀ i, aZ H267 19 i = aZ H 19 i := fun i => (by rw [eH267, aZ_sA_nc (by first | with_reducible assumption | omega)] : aZ H267 19 i = aZ H221 19 i).trans (m224 i)
    have m271 : ∀ i, aZ H267 17 i = aZ H 17 i := fun i => (by rw [eH267, aZ_sA_nc (by first | with_reducible assumption | omega)] : aZ H267 17 i = aZ H221 17 i).trans (m225 i)
    have m272 : kpM H H267 := kpM_A m226 eH267 (by first | with_reducible assumption | omega)
    exact g_ret ⟨rfl, hIH267, hJH267, m268, m269, m270, m271, m272⟩
set_option maxRecDepth 4000 in
set_option maxHeartbeats 4000000 in
/-- M.ends -/
theorem s_198 (a1 : Int32) (ha1 : 0 ≤ a1.toInt ∧ a1.toInt ≤ 39) (H : mzH) (hI : gI SM H) (hJ : JM H) : gCall 198 [.ref 0, .int a1] H (gRv (fun H' => gI SM H' ∧ JM H' ∧ (∀ a f, fZ H' a f = fZ H a f) ∧ (∀ i, aZ H' 2 i = aZ H 2 i) ∧ (∀ i, aZ H' 19 i = aZ H 19 i) ∧ (∀ i, aZ H' 17 i = aZ H 17 i) ∧ kpM H H')) := by
  have mkF : ∀ a f, fZ H a f = fZ H a f := fun _ _ => rfl
  have mk2 : ∀ i, aZ H 2 i = aZ H 2 i := fun _ => rfl
  have mk19 : ∀ i, aZ H 19 i = aZ H 19 i := fun _ => rfl
  have mk17 : ∀ i, aZ H 17 i = aZ H 17 i := fun _ => rfl
  have mkfr : kpM H H := kpM_r
  refine gG_call [(0, .ref 0), (1, .int a1)] ⟨rfl, rfl, trivial⟩ ?_
  show gG 3 zB_198 (mzBlk zB_198 0) [(0, .ref 0), (1, .int a1)] [] H 0 0 _
  refine g_iconst (by decide) (fun v965 kv965 => ?_)
  refine g_istore_n (l' := [(0, .ref 0), (1, .int a1), (2, .int v965)]) rfl rfl ?_
  refine g_nop ?_
  have L973 : ∀ (N : Nat) (v966 : Int32) (H967 : mzH), gI SM H967 → JM H967 → (∀ a f, fZ H967 a f = fZ H a f) → (∀ i, aZ H967 2 i = aZ H 2 i) → (∀ i, aZ H967 19 i = aZ H 19 i) → (∀ i, aZ H967 17 i = aZ H 17 i) → kpM H H967 → (0 ≤ v966.toInt ∧ v966.toInt ≤ 40) → (40 - v966.toInt).toNat < N → gG 3 zB_198 (mzBlk zB_198 1) [(0, .ref 0), (1, .int a1), (2, .int v966)] [] H967 0 0 (gRv (fun H' => gI SM H' ∧ JM H' ∧ (∀ a f, fZ H' a f = fZ H a f) ∧ (∀ i, aZ H' 2 i = aZ H 2 i) ∧ (∀ i, aZ H' 19 i = aZ H 19 i) ∧ (∀ i, aZ H' 17 i = aZ H 17 i) ∧ kpM H H')) := by
    intro N
    induction N with
    | zero => intro v966 H967 hIH967 hJH967 m968 m969 m970 m971 m972 bv966 hmL973; exact absurd hmL973 (Nat.not_lt_zero _)
    | succ N ihL973 =>
      intro v966 H967 hIH967 hJH967 m968 m969 m970 m971 m972 bv966 hmL973
      refine g_iload_n rfl ?_
      refine g_bipush (by decide) (fun v974 kv974 => ?_)
      refine g_if2_ge (fun c975 => ?_) (fun c975 => ?_)
      · refine g_aload_n rfl ?_
        refine g_gfr hIH967 sm_0 rfl ?_
        refine g_iload_n rfl ?_
        refine g_iaload hIH967 sm_9 rfl (by first | with_reducible assumption | omega) (fun v976 ev976 lv976 uv976 => ?_)
        have qv976 := JM_in hJH967 (by first | with_reducible assumption | omega) ev976
        have yv976 : v976.toInt = (aZ H967 9 a1.toInt.toNat).toInt := by rw [ev976]
        refine g_bipush (by decide) (fun v977 kv977 => ?_)
        refine g_if2_eq (fun c978 => ?_) (fun c978 => ?_)
        · refine g_iconst (by decide) (fun v979 kv979 => ?_)
          refine g_istore_n (l' := [(0, .ref 0), (1, .int a1), (2, .int v979)]) rfl rfl ?_
          refine g_nop ?_
          have L987 : ∀ (N : Nat) (v980 : Int32) (H981 : mzH), gI SM H981 → JM H981 → (∀ a f, fZ H981 a f = fZ H a f) → (∀ i, aZ H981 2 i = aZ H 2 i) → (∀ i, aZ H981 19 i = aZ H 19 i) → (∀ i, aZ H981 17 i = aZ H 17 i) → kpM H H981 → (0 ≤ v980.toInt ∧ v980.toInt ≤ 40) → (40 - v980.toInt).toNat < N → gG 3 zB_198 (mzBlk zB_198 7) [(0, .ref 0), (1, .int a1), (2, .int v980)] [] H981 0 0 (gRv (fun H' => gI SM H' ∧ JM H' ∧ (∀ a f, fZ H' a f = fZ H a f) ∧ (∀ i, aZ H' 2 i = aZ H 2 i) ∧ (∀ i, aZ H' 19 i = aZ H 19 i) ∧ (∀ i, aZ H' 17 i = aZ H 17 i) ∧ kpM H H')) := by
            intro N
            induction N with
            | zero => intro v980 H981 hIH981 hJH981 m982 m983 m984 m985 m986 bv980 hmL987; exact absurd hmL987 (Nat.not_lt_zero _)
            | succ N ihL987 =>
              intro v980 H981 hIH981 hJH981 m982 m983 m984 m985 m986 bv980 hmL987
              refine g_iload_n rfl ?_
              refine g_bipush (by decide) (fun v988 kv988 => ?_)
              refine g_if2_ge (fun c989 => ?_) (fun c989 => ?_)
              · exact g_ret ⟨rfl, hIH981, hJH981, m982, m983, m984, m985, m986⟩
              · refine g_aload_n rfl ?_
                refine g_gfr hIH981 sm_0 rfl ?_
                refine g_iload_n rfl ?_
                refine g_baload hIH981 sm_21 rfl (by first | with_reducible assumption | omega) (fun v990 ev990 lv990 uv990 => ?_)
                refine g_if_ne (fun c991 => ?_) (fun c991 => ?_)
                · refine g_aload_n rfl ?_
                  refine g_gfr hIH981 sm_0 rfl ?_
                  refine g_iload_n rfl ?_
                  refine g_iconst (by decide) (fun v992 kv992 => ?_)
                  refine g_zastore hIH981 sm_16 (by first | with_reducible assumption | omega) (by first | with_reducible assumption | omega) (fun H993 eH993 hIH993 => ?_)
                  have hJH993 : JM H993 := JM_sA (by decide) eH993 hJH981
                  have m994 : ∀ a f, fZ H993 a f = fZ H a f := fun a f => (by rw [eH993, fZ_sA] : fZ H993 a f = fZ H981 a f).trans (m982 a f)
                  have m995 : ∀ i, aZ H993 2 i = aZ H 2 i := fun i => (by rw [eH993, aZ_sA_nc (by first | with_reducible assumption | omega)] : aZ H993 2 i = aZ H981 2 i).trans (m983 i)
                  have m996 : ∀ i, aZ H993 19 i = aZ H 19 i := fun i => (by rw [eH993, aZ_sA_nc (by first | with_reducible assumption | omega)] : aZ H993 19 i = aZ H981 19 i).trans (m984 i)
                  have m997 : ∀ i, aZ H993 17 i = aZ H 17 i := fun i => (by rw [eH993, aZ_sA_nc (by first | with_reducible assumption | omega)] : aZ H993 17 i = aZ H981 17 i).trans (m985 i)
                  have m998 : kpM H H993 := kpM_A m986 eH993 (by first | with_reducible assumption | omega)
                  refine g_aload_n rfl ?_
                  refine g_gfr hIH993 sm_0 rfl ?_
                  refine g_iload_n rfl ?_
                  refine g_bipush (by decide) (fun v999 kv999 => ?_)
                  refine g_iastore hIH993 sm_9 (by first | with_reducible assumption | omega) (by first | with_reducible assumption | omega) (fun H1000 eH1000 hIH1000 => ?_)
                  have hJH1000 : JM H1000 := JM_out hIH993 hJH993 (by first | with_reducible assumption | omega) (by first | with_reducible assumption | omega) eH1000
                  have m1001 : ∀ a f, fZ H1000 a f = fZ H a f := fun a f => (by rw [eH1000, fZ_sA] : fZ H1000 a f = fZ H993 a f).trans (m994 a f)
                  have m1002 : ∀ i, aZ H1000 2 i = aZ H 2 i := fun i => (by rw [eH1000, aZ_sA_nc (by first | with_reducible assumption | omega)] : aZ H1000 2 i = aZ H993 2 i).trans (m995 i)
                  have m1003 : ∀ i, aZ H1000 19 i = aZ H 19 i := fun i => (by rw [eH1000, aZ_sA_nc (by first | with_reducible assumption | omega)] : aZ H1000 19 i = aZ H993 19 i).trans (m996 i)
                  have m1004 : ∀ i, aZ H1000 17 i = aZ H 17 i := fun i => (by rw [eH1000, aZ_sA_nc (by first | with_reducible assumption | omega)] : aZ H1000 17 i = aZ H993 17 i).trans (m997 i)
                  have m1005 : kpM H H1000 := kpM_A m998 eH1000 (by first | with_reducible assumption | omega)
                  refine g_aload_n rfl ?_
                  refine g_gfr hIH1000 sm_0 rfl ?_
                  refine g_iload_n rfl ?_
                  refine g_iconst (by decide) (fun v1006 kv1006 => ?_)
                  refine g_zastore hIH1000 sm_13 (by first | with_reducible assumption | omega) (by first | with_reducible assumption | omega) (fun H1007 eH1007 hIH1007 => ?_)
                  have hJH1007 : JM H1007 := JM_sA (by decide) eH1007 hJH1000
                  have m1008 : ∀ a f, fZ H1007 a f = fZ H a f := fun a f => (by rw [eH1007, fZ_sA] : fZ H1007 a f = fZ H1000 a f).trans (m1001 a f)
                  have m1009 : ∀ i, aZ H1007 2 i = aZ H 2 i := fun i => (by rw [eH1007, aZ_sA_nc (by first | with_reducible assumption | omega)] : aZ H1007 2 i = aZ H1000 2 i).trans (m1002 i)
                  have m1010 : ∀ i, aZ H1007 19 i = aZ H 19 i := fun i => (by rw [eH1007, aZ_sA_nc (by first | with_reducible assumption | omega)] : aZ H1007 19 i = aZ H1000 19 i).trans (m1003 i)
                  have m1011 : ∀ i, aZ H1007 17 i = aZ H 17 i := fun i => (by rw [eH1007, aZ_sA_nc (by first | with_reducible assumption | omega)] : aZ H1007 17 i = aZ H1000 17 i).trans (m1004 i)
                  have m1012 : kpM H H1007 := kpM_A m1005 eH1007 (by first | with_reducible assumption | omega)
                  refine g_aload_n rfl ?_
                  refine g_gfr hIH1007 sm_0 rfl ?_
                  refine g_iload_n rfl ?_
                  refine g_iconst (by decide) (fun v1013 kv1013 => ?_)
                  refine g_zastore hIH1007 sm_14 (by first | with_reducible assumption | omega) (by first | with_reducible assumption | omega) (fun H1014 eH1014 hIH1014 => ?_)
                  have hJH1014 : JM H1014 := JM_sA (by decide) eH1014 hJH1007
                  have m1015 : ∀ a f, fZ H1014 a f = fZ H a f := fun a f => (by rw [eH1014, fZ_sA] : fZ H1014 a f = fZ H1007 a f).trans (m1008 a f)
                  have m1016 : ∀ i, aZ H1014 2 i = aZ H 2 i := fun i => (by rw [eH1014, aZ_sA_nc (by first | with_reducible assumption | omega)] : aZ H1014 2 i = aZ H1007 2 i).trans (m1009 i)
                  have m1017 : ∀ i, aZ H1014 19 i = aZ H 19 i := fun i => (by rw [eH1014, aZ_sA_nc (by first | with_reducible assumption | omega)] : aZ H1014 19 i = aZ H1007 19 i).trans (m1010 i)
                  have m1018 : ∀ i, aZ H1014 17 i = aZ H 17 i := fun i => (by rw [eH1014, aZ_sA_nc (by first | with_reducible assumption | omega)] : aZ H1014 17 i = aZ H1007 17 i).trans (m1011 i)
                  have m1019 : kpM H H1014 := kpM_A m1012 eH1014 (by first | with_reducible assumption | omega)
                  refine g_aload_n rfl ?_
                  refine g_gfr hIH1014 sm_0 rfl ?_
                  refine g_iload_n rfl ?_
                  refine g_iconst (by decide) (fun v1020 kv1020 => ?_)
                  refine g_zastore hIH1014 sm_15 (by first | with_reducible assumption | omega) (by first | with_reducible assumption | omega) (fun H1021 eH1021 hIH1021 => ?_)
                  have hJH1021 : JM H1021 := JM_sA (by decide) eH1021 hJH1014
                  have m1022 : ∀ a f, fZ H1021 a f = fZ H a f := fun a f => (by rw [eH1021, fZ_sA] : fZ H1021 a f = fZ H1014 a f).trans (m1015 a f)
                  have m1023 : ∀ i, aZ H1021 2 i = aZ H 2 i := fun i => (by rw [eH1021, aZ_sA_nc (by first | with_reducible assumption | omega)] : aZ H1021 2 i = aZ H1014 2 i).trans (m1016 i)
                  have m1024 : ∀ i, aZ H1021 19 i = aZ H 19 i := fun i => (by rw [eH1021, aZ_sA_nc (by first | with_reducible assumption | omega)] : aZ H1021 19 i = aZ H1014 19 i).trans (m1017 i)
                  have m1025 : ∀ i, aZ H1021 17 i = aZ H 17 i := fun i => (by rw [eH1021, aZ_sA_nc (by first | with_reducible assumption | omega)] : aZ H1021 17 i = aZ H1014 17 i).trans (m1018 i)
                  have m1026 : kpM H H1021 := kpM_A m1019 eH1021 (by first | with_reducible assumption | omega)
                  refine g_nop ?_
                  refine g_iinc (l' := (fun v1027 => [(0, .ref 0), (1, .int a1), (2, .int v1027)])) rfl rfl (by decide) (by first | with_reducible assumption | omega) (fun _ => rfl) (fun v1027 ev1027 => ?_)
                  refine g_goto ?_
                  exact ihL987 v1027 H1021 hIH1021 hJH1021 m1022 m1023 m1024 m1025 m1026 (by first | with_reducible assumption | omega) (by first | with_reducible assumption | omega)
                · refine g_goto ?_
                  refine g_iinc (l' := (fun v1028 => [(0, .ref 0), (1, .int a1), (2, .int v1028)])) rfl rfl (by decide) (by first | with_reducible assumption | omega) (fun _ => rfl) (fun v1028 ev1028 => ?_)
                  refine g_goto ?_
                  exact ihL987 v1028 H981 hIH981 hJH981 m982 m983 m984 m985 m986 (by first | with_reducible assumption | omega) (by first | with_reducible assumption | omega)
          exact L987 _ v979 H967 hIH967 hJH967 m968 m969 m970 m971 m972 (by first | with_reducible assumption | omega) (Nat.lt_succ_self _)
        · refine g_aload_n rfl ?_
          refine g_gfr hIH967 sm_0 rfl ?_
          refine g_aload_n rfl ?_
          refine g_gfr hIH967 sm_0 rfl ?_
          refine g_iload_n rfl ?_
          refine g_ialoadk hIH967 sm_9 rfl (by first | with_reducible assumption | omega) ev976 ?_
          refine g_iconst (by decide) (fun v1029 kv1029 => ?_)
          refine g_zastore hIH967 sm_13 (by first | with_reducible assumption | omega) (by first | with_reducible assumption | omega) (fun H1030 eH1030 hIH1030 => ?_)
          have hJH1030 : JM H1030 := JM_sA (by decide) eH1030 hJH967
          have m1031 : ∀ a f, fZ H1030 a f = fZ H a f := fun a f => (by rw [eH1030, fZ_sA] : fZ H1030 a f = fZ H967 a f).trans (m968 a f)
          have m1032 : ∀ i, aZ H1030 2 i = aZ H 2 i := fun i => (by rw [eH1030, aZ_sA_nc (by first | with_reducible assumption | omega)] : aZ H1030 2 i = aZ H967 2 i).trans (m969 i)
          have m1033 : ∀ i, aZ H1030 19 i = aZ H 19 i := fun i => (by rw [eH1030, aZ_sA_nc (by first | with_reducible assumption | omega)] : aZ H1030 19 i = aZ H967 19 i).trans (m970 i)
          have m1034 : ∀ i, aZ H1030 17 i = aZ H 17 i := fun i => (by rw [eH1030, aZ_sA_nc (by first | with_reducible assumption | omega)] : aZ H1030 17 i = aZ H967 17 i).trans (m971 i)
          have m1035 : kpM H H1030 := kpM_A m972 eH1030 (by first | with_reducible assumption | omega)
          refine g_nop ?_
          refine g_iconst (by decide) (fun v1036 kv1036 => ?_)
          refine g_istore_n (l' := [(0, .ref 0), (1, .int a1), (2, .int v1036)]) rfl rfl ?_
          refine g_nop ?_
          have L1044 : ∀ (N : Nat) (v1037 : Int32) (H1038 : mzH), gI SM H1038 → JM H1038 → (∀ a f, fZ H1038 a f = fZ H a f) → (∀ i, aZ H1038 2 i = aZ H 2 i) → (∀ i, aZ H1038 19 i = aZ H 19 i) → (∀ i, aZ H1038 17 i = aZ H 17 i) → kpM H H1038 → (0 ≤ v1037.toInt ∧ v1037.toInt ≤ 40) → (40 - v1037.toInt).toNat < N → gG 3 zB_198 (mzBlk zB_198 7) [(0, .ref 0), (1, .int a1), (2, .int v1037)] [] H1038 0 0 (gRv (fun H' => gI SM H' ∧ JM H' ∧ (∀ a f, fZ H' a f = fZ H a f) ∧ (∀ i, aZ H' 2 i = aZ H 2 i) ∧ (∀ i, aZ H' 19 i = aZ H 19 i) ∧ (∀ i, aZ H' 17 i = aZ H 17 i) ∧ kpM H H')) := by
            intro N
            induction N with
            | zero => intro v1037 H1038 hIH1038 hJH1038 m1039 m1040 m1041 m1042 m1043 bv1037 hmL1044; exact absurd hmL1044 (Nat.not_lt_zero _)
            | succ N ihL1044 =>
              intro v1037 H1038 hIH1038 hJH1038 m1039 m1040 m1041 m1042 m1043 bv1037 hmL1044
              refine g_iload_n rfl ?_
              refine g_bipush (by decide) (fun v1045 kv1045 => ?_)
              refine g_if2_ge (fun c1046 => ?_) (fun c1046 => ?_)
              · exact g_ret ⟨rfl, hIH1038, hJH1038, m1039, m1040, m1041, m1042, m1043⟩
              · refine g_aload_n rfl ?_
                refine g_gfr hIH1038 sm_0 rfl ?_
                refine g_iload_n rfl ?_
                refine g_baload hIH1038 sm_21 rfl (by first | with_reducible assumption | omega) (fun v1047 ev1047 lv1047 uv1047 => ?_)
                refine g_if_ne (fun c1048 => ?_) (fun c1048 => ?_)
                · refine g_aload_n rfl ?_
                  refine g_gfr hIH1038 sm_0 rfl ?_
                  refine g_iload_n rfl ?_
                  refine g_iconst (by decide) (fun v1049 kv1049 => ?_)
                  refine g_zastore hIH1038 sm_16 (by first | with_reducible assumption | omega) (by first | with_reducible assumption | omega) (fun H1050 eH1050 hIH1050 => ?_)
                  have hJH1050 : JM H1050 := JM_sA (by decide) eH1050 hJH1038
                  have m1051 : ∀ a f, fZ H1050 a f = fZ H a f := fun a f => (by rw [eH1050, fZ_sA] : fZ H1050 a f = fZ H1038 a f).trans (m1039 a f)
                  have m1052 : ∀ i, aZ H1050 2 i = aZ H 2 i := fun i => (by rw [eH1050, aZ_sA_nc (by first | with_reducible assumption | omega)] : aZ H1050 2 i = aZ H1038 2 i).trans (m1040 i)
                  have m1053 : ∀ i, aZ H1050 19 i = aZ H 19 i := fun i => (by rw [eH1050, aZ_sA_nc (by first | with_reducible assumption | omega)] : aZ H1050 19 i = aZ H1038 19 i).trans (m1041 i)
                  have m1054 : ∀ i, aZ H1050 17 i = aZ H 17 i := fun i => (by rw [eH1050, aZ_sA_nc (by first | with_reducible assumption | omega)] : aZ H1050 17 i = aZ H1038 17 i).trans (m1042 i)
                  have m1055 : kpM H H1050 := kpM_A m1043 eH1050 (by first | with_reducible assumption | omega)
                  refine g_aload_n rfl ?_
                  refine g_gfr hIH1050 sm_0 rfl ?_
                  refine g_iload_n rfl ?_
                  refine g_bipush (by decide) (fun v1056 kv1056 => ?_)
                  refine g_iastore hIH1050 sm_9 (by first | with_reducible assumption | omega) (by first | with_reducible assumption | omega) (fun H1057 eH1057 hIH1057 => ?_)
                  have hJH1057 : JM H1057 := JM_out hIH1050 hJH1050 (by first | with_reducible assumption | omega) (by first | with_reducible assumption | omega) eH1057
                  have m1058 : ∀ a f, fZ H1057 a f = fZ H a f := fun a f => (by rw [eH1057, fZ_sA] : fZ H1057 a f = fZ H1050 a f).trans (m1051 a f)
                  have m1059 : ∀ i, aZ H1057 2 i = aZ H 2 i := fun i => (by rw [eH1057, aZ_sA_nc (by first | with_reducible assumption | omega)] : aZ H1057 2 i = aZ H1050 2 i).trans (m1052 i)
                  have m1060 : ∀ i, aZ H1057 19 i = aZ H 19 i := fun i => (by rw [eH1057, aZ_sA_nc (by first | with_reducible assumption | omega)] : aZ H1057 19 i = aZ H1050 19 i).trans (m1053 i)
                  have m1061 : ∀ i, aZ H1057 17 i = aZ H 17 i := fun i => (by rw [eH1057, aZ_sA_nc (by first | with_reducible assumption | omega)] : aZ H1057 17 i = aZ H1050 17 i).trans (m1054 i)
                  have m1062 : kpM H H1057 := kpM_A m1055 eH1057 (by first | with_reducible assumption | omega)
                  refine g_aload_n rfl ?_
                  refine g_gfr hIH1057 sm_0 rfl ?_
                  refine g_iload_n rfl ?_
                  refine g_iconst (by decide) (fun v1063 kv1063 => ?_)
                  refine g_zastore hIH1057 sm_13 (by first | with_reducible assumption | omega) (by first | with_reducible assumption | omega) (fun H1064 eH1064 hIH1064 => ?_)
                  have hJH1064 : JM H1064 := JM_sA (by decide) eH1064 hJH1057
                  have m1065 : ∀ a f, fZ H1064 a f = fZ H a f := fun a f => (by rw [eH1064, fZ_sA] : fZ H1064 a f = fZ H1057 a f).trans (m1058 a f)
                  have m1066 : ∀ i, aZ H1064 2 i = aZ H 2 i := fun i => (by rw [eH1064, aZ_sA_nc (by first | with_reducible assumption | omega)] : aZ H1064 2 i = aZ H1057 2 i).trans (m1059 i)
                  have m1067 : ∀ i, aZ H1064 19 i = aZ H 19 i := fun i => (by rw [eH1064, aZ_sA_nc (by first | with_reducible assumption | omega)] : aZ H1064 19 i = aZ H1057 19 i).trans (m1060 i)
                  have m1068 : ∀ i, aZ H1064 17 i = aZ H 17 i := fun i => (by rw [eH1064, aZ_sA_nc (by first | with_reducible assumption | omega)] : aZ H1064 17 i = aZ H1057 17 i).trans (m1061 i)
                  have m1069 : kpM H H1064 := kpM_A m1062 eH1064 (by first | with_reducible assumption | omega)
                  refine g_aload_n rfl ?_
                  refine g_gfr hIH1064 sm_0 rfl ?_
                  refine g_iload_n rfl ?_
                  refine g_iconst (by decide) (fun v1070 kv1070 => ?_)
                  refine g_zastore hIH1064 sm_14 (by first | with_reducible assumption | omega) (by first | with_reducible assumption | omega) (fun H1071 eH1071 hIH1071 => ?_)
                  have hJH1071 : JM H1071 := JM_sA (by decide) eH1071 hJH1064
                  have m1072 : ∀ a f, fZ H1071 a f = fZ H a f := fun a f => (by rw [eH1071, fZ_sA] : fZ H1071 a f = fZ H1064 a f).trans (m1065 a f)
                  have m1073 : ∀ i, aZ H1071 2 i = aZ H 2 i := fun i => (by rw [eH1071, aZ_sA_nc (by first | with_reducible assumption | omega)] : aZ H1071 2 i = aZ H1064 2 i).trans (m1066 i)
                  have m1074 : ∀ i, aZ H1071 19 i = aZ H 19 i := fun i => (by rw [eH1071, aZ_sA_nc (by first | with_reducible assumption | omega)] : aZ H1071 19 i = aZ H1064 19 i).trans (m1067 i)
                  have m1075 : ∀ i, aZ H1071 17 i = aZ H 17 i := fun i => (by rw [eH1071, aZ_sA_nc (by first | with_reducible assumption | omega)] : aZ H1071 17 i = aZ H1064 17 i).trans (m1068 i)
                  have m1076 : kpM H H1071 := kpM_A m1069 eH1071 (by first | with_reducible assumption | omega)
                  refine g_aload_n rfl ?_
                  refine g_gfr hIH1071 sm_0 rfl ?_
                  refine g_iload_n rfl ?_
                  refine g_iconst (by decide) (fun v1077 kv1077 => ?_)
                  refine g_zastore hIH1071 sm_15 (by first | with_reducible assumption | omega) (by first | with_reducible assumption | omega) (fun H1078 eH1078 hIH1078 => ?_)
                  have hJH1078 : JM H1078 := JM_sA (by decide) eH1078 hJH1071
                  have m1079 : ∀ a f, fZ H1078 a f = fZ H a f := fun a f => (by rw [eH1078, fZ_sA] : fZ H1078 a f = fZ H1071 a f).trans (m1072 a f)
                  have m1080 : ∀ i, aZ H1078 2 i = aZ H 2 i := fun i => (by rw [eH1078, aZ_sA_nc (by first | with_reducible assumption | omega)] : aZ H1078 2 i = aZ H1071 2 i).trans (m1073 i)
                  have m1081 : ∀ i, aZ H1078 19 i = aZ H 19 i := fun i => (by rw [eH1078, aZ_sA_nc (by first | with_reducible assumption | omega)] : aZ H1078 19 i = aZ H1071 19 i).trans (m1074 i)
                  have m1082 : ∀ i, aZ H1078 17 i = aZ H 17 i := fun i => (by rw [eH1078, aZ_sA_nc (by first | with_reducible assumption | omega)] : aZ H1078 17 i = aZ H1071 17 i).trans (m1075 i)
                  have m1083 : kpM H H1078 := kpM_A m1076 eH1078 (by first | with_reducible assumption | omega)
                  refine g_nop ?_
                  refine g_iinc (l' := (fun v1084 => [(0, .ref 0), (1, .int a1), (2, .int v1084)])) rfl rfl (by decide) (by first | with_reducible assumption | omega) (fun _ => rfl) (fun v1084 ev1084 => ?_)
                  refine g_goto ?_
                  exact ihL1044 v1084 H1078 hIH1078 hJH1078 m1079 m1080 m1081 m1082 m1083 (by first | with_reducible assumption | omega) (by first | with_reducible assumption | omega)
                · refine g_goto ?_
                  refine g_iinc (l' := (fun v1085 => [(0, .ref 0), (1, .int a1), (2, .int v1085)])) rfl rfl (by decide) (by first | with_reducible assumption | omega) (fun _ => rfl) (fun v1085 ev1085 => ?_)
                  refine g_goto ?_
                  exact ihL1044 v1085 H1038 hIH1038 hJH1038 m1039 m1040 m1041 m1042 m1043 (by first | with_reducible assumption | omega) (by first | with_reducible assumption | omega)
          exact L1044 _ v1036 H1030 hIH1030 hJH1030 m1031 m1032 m1033 m1034 m1035 (by first | with_reducible assumption | omega) (Nat.lt_succ_self _)
      · refine g_aload_n rfl ?_
        refine g_gfr hIH967 sm_0 rfl ?_
        refine g_iload_n rfl ?_
        refine g_iload_n rfl ?_
        refine g_iload_n rfl ?_
        refine g_if2_eq (fun c1086 => ?_) (fun c1086 => ?_)
        · refine g_iconst (by decide) (fun v1087 kv1087 => ?_)
          refine g_goto ?_
          refine g_zastore hIH967 sm_21 (by first | with_reducible assumption | omega) (by first | with_reducible assumption | omega) (fun H1088 eH1088 hIH1088 => ?_)
          have hJH1088 : JM H1088 := JM_sA (by decide) eH1088 hJH967
          have m1089 : ∀ a f, fZ H1088 a f = fZ H a f := fun a f => (by rw [eH1088, fZ_sA] : fZ H1088 a f = fZ H967 a f).trans (m968 a f)
          have m1090 : ∀ i, aZ H1088 2 i = aZ H 2 i := fun i => (by rw [eH1088, aZ_sA_nc (by first | with_reducible assumption | omega)] : aZ H1088 2 i = aZ H967 2 i).trans (m969 i)
          have m1091 : ∀ i, aZ H1088 19 i = aZ H 19 i := fun i => (by rw [eH1088, aZ_sA_nc (by first | with_reducible assumption | omega)] : aZ H1088 19 i = aZ H967 19 i).trans (m970 i)
          have m1092 : ∀ i, aZ H1088 17 i = aZ H 17 i := fun i => (by rw [eH1088, aZ_sA_nc (by first | with_reducible assumption | omega)] : aZ H1088 17 i = aZ H967 17 i).trans (m971 i)
          have m1093 : kpM H H1088 := kpM_A m972 eH1088 (by first | with_reducible assumption | omega)
          refine g_iinc (l' := (fun v1094 => [(0, .ref 0), (1, .int a1), (2, .int v1094)])) rfl rfl (by decide) (by first | with_reducible assumption | omega) (fun _ => rfl) (fun v1094 ev1094 => ?_)
          refine g_goto ?_
          exact ihL973 v1094 H1088 hIH1088 hJH1088 m1089 m1090 m1091 m1092 m1093 (by first | with_reducible assumption | omega) (by first | with_reducible assumption | omega)
        · refine g_aload_n rfl ?_
          refine g_iload_n rfl ?_
          refine g_iload_n rfl ?_
          refine g_invvi hIH967 sm_0 rfl rfl rfl rfl (s_187 v966 (by first | with_reducible assumption | omega) a1 H967 hIH967 hJH967) (fun v1097 H1095 r1096 => ?_)
          obtain ⟨rfl, bv1097⟩ := r1096
          refine g_if_eq (fun c1098 => ?_) (fun c1098 => ?_)
          · refine g_iconst (by decide) (fun v1099 kv1099 => ?_)
            refine g_nop ?_
            refine g_zastore hIH967 sm_21 (by first | with_reducible assumption | omega) (by first | with_reducible assumption | omega) (fun H1100 eH1100 hIH1100 => ?_)
            have hJH1100 : JM H1100 := JM_sA (by decide) eH1100 hJH967
            have m1101 : ∀ a f, fZ H1100 a f = fZ H a f := fun a f => (by rw [eH1100, fZ_sA] : fZ H1100 a f = fZ H967 a f).trans (m968 a f)
            have m1102 : ∀ i, aZ H1100 2 i = aZ H 2 i := fun i => (by rw [eH1100, aZ_sA_nc (by first | with_reducible assumption | omega)] : aZ H1100 2 i = aZ H967 2 i).trans (m969 i)
            have m1103 : ∀ i, aZ H1100 19 i = aZ H 19 i := fun i => (by rw [eH1100, aZ_sA_nc (by first | with_reducible assumption | omega)] : aZ H1100 19 i = aZ H967 19 i).trans (m970 i)
            have m1104 : ∀ i, aZ H1100 17 i = aZ H 17 i := fun i => (by rw [eH1100, aZ_sA_nc (by first | with_reducible assumption | omega)] : aZ H1100 17 i = aZ H967 17 i).trans (m971 i)
            have m1105 : kpM H H1100 := kpM_A m972 eH1100 (by first | with_reducible assumption | omega)
            refine g_iinc (l' := (fun v1106 => [(0, .ref 0), (1, .int a1), (2, .int v1106)])) rfl rfl (by decide) (by first | with_reducible assumption | omega) (fun _ => rfl) (fun v1106 ev1106 => ?_)
            refine g_goto ?_
            exact ihL973 v1106 H1100 hIH1100 hJH1100 m1101 m1102 m1103 m1104 m1105 (by first | with_reducible assumption | omega) (by first | with_reducible assumption | omega)
          · refine g_nop ?_
            refine g_iconst (by decide) (fun v1107 kv1107 => ?_)
            refine g_goto ?_
            refine g_zastore hIH967 sm_21 (by first | with_reducible assumption | omega) (by first | with_reducible assumption | omega) (fun H1108 eH1108 hIH1108 => ?_)
            have hJH1108 : JM H1108 := JM_sA (by decide) eH1108 hJH967
            have m1109 : ∀ a f, fZ H1108 a f = fZ H a f := fun a f => (by rw [eH1108, fZ_sA] : fZ H1108 a f = fZ H967 a f).trans (m968 a f)
            have m1110 : ∀ i, aZ H1108 2 i = aZ H 2 i := fun i => (by rw [eH1108, aZ_sA_nc (by first | with_reducible assumption | omega)] : aZ H1108 2 i = aZ H967 2 i).trans (m969 i)
            have m1111 : ∀ i, aZ H1108 19 i = aZ H 19 i := fun i => (by rw [eH1108, aZ_sA_nc (by first | with_reducible assumption | omega)] : aZ H1108 19 i = aZ H967 19 i).trans (m970 i)
            have m1112 : ∀ i, aZ H1108 17 i = aZ H 17 i := fun i => (by rw [eH1108, aZ_sA_nc (by first | with_reducible assumption | omega)] : aZ H1108 17 i = aZ H967 17 i).trans (m971 i)
            have m1113 : kpM H H1108 := kpM_A m972 eH1108 (by first | with_reducible assumption | omega)
            refine g_iinc (l' := (fun v1114 => [(0, .ref 0), (1, .int a1), (2, .int v1114)])) rfl rfl (by decide) (by first | with_reducible assumption | omega) (fun _ => rfl) (fun v1114 ev1114 => ?_)
            refine g_goto ?_
            exact ihL973 v1114 H1108 hIH1108 hJH1108 m1109 m1110 m1111 m1112 m1113 (by first | with_reducible assumption | omega) (by first | with_reducible assumption | omega)
  exact L973 _ v965 H hI hJ mkF mk2 mk19 mk17 mkfr (by first | with_reducible assumption | omega) (Nat.lt_succ_self _)
set_option maxRecDepth 4000 in
set_option maxHeartbeats 4000000 in
/-- M.takes -/
theorem s_195 (a1 : Int32) (ha1 : 0 ≤ a1.toInt ∧ a1.toInt ≤ 10) (a2 : Int32) (ha2 : 0 ≤ a2.toInt ∧ a2.toInt ≤ 39) (a3 : Int32) (a4 : Int32) (a5 : Int32) (H : mzH) (hI : gI SM H) (hJ : JM H) (hp0 : (a1.toInt = 0 → (0 ≤ a3.toInt ∧ a3.toInt ≤ 7 ∧ 0 ≤ a5.toInt ∧ a5.toInt ≤ 2))) (hp1 : ((a1.toInt = 5 ∨ a1.toInt = 6 ∨ a1.toInt = 8) → (0 ≤ a3.toInt ∧ a3.toInt ≤ 7))) (hp2 : (a1.toInt = 1 → (0 ≤ a3.toInt ∧ a3.toInt ≤ 39))) (hp3 : RS H a1 a2 a3) : gCall 195 [.ref 0, .int a1, .int a2, .int a3, .int a4, .int a5] H (gRv (fun H' => gI SM H' ∧ JM H' ∧ (∀ a f, fZ H' a f = fZ H a f) ∧ (∀ i, aZ H' 2 i = aZ H 2 i) ∧ (∀ i, aZ H' 19 i = aZ H 19 i) ∧ (∀ i, aZ H' 17 i = aZ H 17 i) ∧ kpM H H')) := by
  have mkF : ∀ a f, fZ H a f = fZ H a f := fun _ _ => rfl
  have mk2 : ∀ i, aZ H 2 i = aZ H 2 i := fun _ => rfl
  have mk19 : ∀ i, aZ H 19 i = aZ H 19 i := fun _ => rfl
  have mk17 : ∀ i, aZ H 17 i = aZ H 17 i := fun _ => rfl
  have mkfr : kpM H H := kpM_r
  refine gG_call [(0, .ref 0), (1, .int a1), (2, .int a2), (3, .int a3), (4, .int a4), (5, .int a5)] ⟨rfl, rfl, rfl, rfl, rfl, rfl, trivial⟩ ?_
  show gG 6 zB_195 (mzBlk zB_195 0) [(0, .ref 0), (1, .int a1), (2, .int a2), (3, .int a3), (4, .int a4), (5, .int a5)] [] H 0 0 _
  refine g_iload_n rfl ?_
  refine g_sw (by decide) (fun c525 => ?_) ⟨fun c525 => ?_, fun c525 => ?_, fun c525 => ?_, fun c525 => ?_, fun c525 => ?_, fun c525 => ?_, fun c525 => ?_, fun c525 => ?_, fun c525 => ?_, fun c525 => ?_, trivial⟩
  · refine g_aload_n rfl ?_
    refine g_gfr hI sm_0 rfl ?_
    refine g_iload_n rfl ?_
    refine g_iconst (by decide) (fun v526 kv526 => ?_)
    refine g_zastore hI sm_14 (by first | with_reducible assumption | omega) (by first | with_reducible assumption | omega) (fun H527 eH527 hIH527 => ?_)
    have hJH527 : JM H527 := JM_sA (by decide) eH527 hJ
    have m528 : ∀ a f, fZ H527 a f = fZ H a f := fun a f => (by rw [eH527, fZ_sA] : fZ H527 a f = fZ H a f).trans (mkF a f)
    have m529 : ∀ i, aZ H527 2 i = aZ H 2 i := fun i => (by rw [eH527, aZ_sA_nc (by first | with_reducible assumption | omega)] : aZ H527 2 i = aZ H 2 i).trans (mk2 i)
    have m530 : ∀ i, aZ H527 19 i = aZ H 19 i := fun i => (by rw [eH527, aZ_sA_nc (by first | with_reducible assumption | omega)] : aZ H527 19 i = aZ H 19 i).trans (mk19 i)
    have m531 : ∀ i, aZ H527 17 i = aZ H 17 i := fun i => (by rw [eH527, aZ_sA_nc (by first | with_reducible assumption | omega)] : aZ H527 17 i = aZ H 17 i).trans (mk17 i)
    have m532 : kpM H H527 := kpM_A mkfr eH527 (by first | with_reducible assumption | omega)
    refine g_nop ?_
    exact g_ret ⟨rfl, hIH527, hJH527, m528, m529, m530, m531, m532⟩
  · refine g_aload_n rfl ?_
    refine g_gfr hI sm_0 rfl ?_
    refine g_iload_n rfl ?_
    refine g_iconst (by decide) (fun v533 kv533 => ?_)
    refine g_zastore hI sm_7 (by first | with_reducible assumption | omega) (by first | with_reducible assumption | omega) (fun H534 eH534 hIH534 => ?_)
    have hJH534 : JM H534 := JM_mk1 hI hJ (by first | with_reducible assumption | omega) eH534
    have m535 : ∀ a f, fZ H534 a f = fZ H a f := fun a f => (by rw [eH534, fZ_sA] : fZ H534 a f = fZ H a f).trans (mkF a f)
    have m536 : ∀ i, aZ H534 2 i = aZ H 2 i := fun i => (by rw [eH534, aZ_sA_nc (by first | with_reducible assumption | omega)] : aZ H534 2 i = aZ H 2 i).trans (mk2 i)
    have m537 : ∀ i, aZ H534 19 i = aZ H 19 i := fun i => (by rw [eH534, aZ_sA_nc (by first | with_reducible assumption | omega)] : aZ H534 19 i = aZ H 19 i).trans (mk19 i)
    have m538 : ∀ i, aZ H534 17 i = aZ H 17 i := fun i => (by rw [eH534, aZ_sA_nc (by first | with_reducible assumption | omega)] : aZ H534 17 i = aZ H 17 i).trans (mk17 i)
    have m539 : kpM H H534 := kpM_A mkfr eH534 (by first | with_reducible assumption | omega)
    refine g_aload_n rfl ?_
    refine g_gfr hIH534 sm_0 rfl ?_
    refine g_iload_n rfl ?_
    refine g_iload rfl ?_
    refine g_iastore hIH534 sm_8 (by first | with_reducible assumption | omega) (by first | with_reducible assumption | omega) (fun H540 eH540 hIH540 => ?_)
    have hJH540 : JM H540 := JM_mk2 hI hIH534 hJ (by first | with_reducible assumption | omega) (hp3.1 (by first | with_reducible assumption | omega)) (by first | with_reducible assumption | omega) eH534 eH540
    have m541 : ∀ a f, fZ H540 a f = fZ H a f := fun a f => (by rw [eH540, fZ_sA] : fZ H540 a f = fZ H534 a f).trans (m535 a f)
    have m542 : ∀ i, aZ H540 2 i = aZ H 2 i := fun i => (by rw [eH540, aZ_sA_nc (by first | with_reducible assumption | omega)] : aZ H540 2 i = aZ H534 2 i).trans (m536 i)
    have m543 : ∀ i, aZ H540 19 i = aZ H 19 i := fun i => (by rw [eH540, aZ_sA_nc (by first | with_reducible assumption | omega)] : aZ H540 19 i = aZ H534 19 i).trans (m537 i)
    have m544 : ∀ i, aZ H540 17 i = aZ H 17 i := fun i => (by rw [eH540, aZ_sA_nc (by first | with_reducible assumption | omega)] : aZ H540 17 i = aZ H534 17 i).trans (m538 i)
    have m545 : kpM H H540 := kpM_A m539 eH540 (by first | with_reducible assumption | omega)
    refine g_aload_n rfl ?_
    refine g_iload_n rfl ?_
    refine g_iload_n rfl ?_
    refine g_iload rfl ?_
    refine g_invvv hIH540 sm_0 rfl rfl rfl rfl (s_194 a2 (by first | with_reducible assumption | omega) a3 (by first | with_reducible assumption | omega) a4 H540 hIH540 hJH540) (fun H546 r547 => ?_)
    obtain ⟨hIH546, hJH546, m548, m549, m550, m551, m552⟩ := r547
    have m553 : ∀ a f, fZ H546 a f = fZ H a f := fun a f => (m548 a f).trans (m541 a f)
    have m554 : ∀ i, aZ H546 2 i = aZ H 2 i := fun i => (m549 i).trans (m542 i)
    have m555 : ∀ i, aZ H546 19 i = aZ H 19 i := fun i => (m550 i).trans (m543 i)
    have m556 : ∀ i, aZ H546 17 i = aZ H 17 i := fun i => (m551 i).trans (m544 i)
    have m557 : kpM H H546 := kpM_t m545 m552
    refine g_goto ?_
    exact g_ret ⟨rfl, hIH546, hJH546, m553, m554, m555, m556, m557⟩
  · refine g_aload_n rfl ?_
    refine g_gfr hI sm_0 rfl ?_
    refine g_iload_n rfl ?_
    refine g_iload_n rfl ?_
    refine g_iastore hI sm_9 (by first | with_reducible assumption | omega) (by first | with_reducible assumption | omega) (fun H558 eH558 hIH558 => ?_)
    have hJH558 : JM H558 := JM_pack hI hJ (by first | with_reducible assumption | omega) (by first | with_reducible assumption | omega) (hp3.2.2 (by first | with_reducible assumption | omega)) eH558
    have m559 : ∀ a f, fZ H558 a f = fZ H a f := fun a f => (by rw [eH558, fZ_sA] : fZ H558 a f = fZ H a f).trans (mkF a f)
    have m560 : ∀ i, aZ H558 2 i = aZ H 2 i := fun i => (by rw [eH558, aZ_sA_nc (by first | with_reducible assumption | omega)] : aZ H558 2 i = aZ H 2 i).trans (mk2 i)
    have m561 : ∀ i, aZ H558 19 i = aZ H 19 i := fun i => (by rw [eH558, aZ_sA_nc (by first | with_reducible assumption | omega)] : aZ H558 19 i = aZ H 19 i).trans (mk19 i)
    have m562 : ∀ i, aZ H558 17 i = aZ H 17 i := fun i => (by rw [eH558, aZ_sA_nc (by first | with_reducible assumption | omega)] : aZ H558 17 i = aZ H 17 i).trans (mk17 i)
    have m563 : kpM H H558 := kpM_A mkfr eH558 (by first | with_reducible assumption | omega)
    refine g_goto ?_
    exact g_ret ⟨rfl, hIH558, hJH558, m559, m560, m561, m562, m563⟩
  · refine g_aload_n rfl ?_
    refine g_iload_n rfl ?_
    refine g_aload_n rfl ?_
    refine g_gfr hI sm_0 rfl ?_
    refine g_aload_n rfl ?_
    refine g_iload_n rfl ?_
    refine g_invvi hI sm_0 rfl rfl rfl rfl (s_186 a2 (by first | with_reducible assumption | omega) H hI hJ) (fun v566 H564 r565 => ?_)
    obtain ⟨rfl, bv566⟩ := r565
    refine g_iaload hI sm_10 rfl (by first | with_reducible assumption | omega) (fun v567 ev567 lv567 uv567 => ?_)
    refine g_iload rfl ?_
    refine g_invvv hI sm_0 rfl rfl rfl rfl (s_196 a2 (by first | with_reducible assumption | omega) v567 (by first | with_reducible assumption | omega) a4 H hI hJ (hp3.2.1 (by first | with_reducible assumption | omega))) (fun H568 r569 => ?_)
    obtain ⟨hIH568, hJH568, m570, m571, m572, m573, m574⟩ := r569
    have m575 : ∀ a f, fZ H568 a f = fZ H a f := fun a f => (m570 a f).trans (mkF a f)
    have m576 : ∀ i, aZ H568 2 i = aZ H 2 i := fun i => (m571 i).trans (mk2 i)
    have m577 : ∀ i, aZ H568 19 i = aZ H 19 i := fun i => (m572 i).trans (mk19 i)
    have m578 : ∀ i, aZ H568 17 i = aZ H 17 i := fun i => (m573 i).trans (mk17 i)
    have m579 : kpM H H568 := kpM_t mkfr m574
    refine g_goto ?_
    exact g_ret ⟨rfl, hIH568, hJH568, m575, m576, m577, m578, m579⟩
  · refine g_aload_n rfl ?_
    refine g_gfr hI sm_0 rfl ?_
    refine g_iload_n rfl ?_
    refine g_iconst (by decide) (fun v580 kv580 => ?_)
    refine g_zastore hI sm_13 (by first | with_reducible assumption | omega) (by first | with_reducible assumption | omega) (fun H581 eH581 hIH581 => ?_)
    have hJH581 : JM H581 := JM_sA (by decide) eH581 hJ
    have m582 : ∀ a f, fZ H581 a f = fZ H a f := fun a f => (by rw [eH581, fZ_sA] : fZ H581 a f = fZ H a f).trans (mkF a f)
    have m583 : ∀ i, aZ H581 2 i = aZ H 2 i := fun i => (by rw [eH581, aZ_sA_nc (by first | with_reducible assumption | omega)] : aZ H581 2 i = aZ H 2 i).trans (mk2 i)
    have m584 : ∀ i, aZ H581 19 i = aZ H 19 i := fun i => (by rw [eH581, aZ_sA_nc (by first | with_reducible assumption | omega)] : aZ H581 19 i = aZ H 19 i).trans (mk19 i)
    have m585 : ∀ i, aZ H581 17 i = aZ H 17 i := fun i => (by rw [eH581, aZ_sA_nc (by first | with_reducible assumption | omega)] : aZ H581 17 i = aZ H 17 i).trans (mk17 i)
    have m586 : kpM H H581 := kpM_A mkfr eH581 (by first | with_reducible assumption | omega)
    refine g_goto ?_
    exact g_ret ⟨rfl, hIH581, hJH581, m582, m583, m584, m585, m586⟩
  · refine g_aload_n rfl ?_
    refine g_gfr hI sm_0 rfl ?_
    refine g_iload_n rfl ?_
    refine g_iconst (by decide) (fun v587 kv587 => ?_)
    refine g_zastore hI sm_13 (by first | with_reducible assumption | omega) (by first | with_reducible assumption | omega) (fun H588 eH588 hIH588 => ?_)
    have hJH588 : JM H588 := JM_sA (by decide) eH588 hJ
    have m589 : ∀ a f, fZ H588 a f = fZ H a f := fun a f => (by rw [eH588, fZ_sA] : fZ H588 a f = fZ H a f).trans (mkF a f)
    have m590 : ∀ i, aZ H588 2 i = aZ H 2 i := fun i => (by rw [eH588, aZ_sA_nc (by first | with_reducible assumption | omega)] : aZ H588 2 i = aZ H 2 i).trans (mk2 i)
    have m591 : ∀ i, aZ H588 19 i = aZ H 19 i := fun i => (by rw [eH588, aZ_sA_nc (by first | with_reducible assumption | omega)] : aZ H588 19 i = aZ H 19 i).trans (mk19 i)
    have m592 : ∀ i, aZ H588 17 i = aZ H 17 i := fun i => (by rw [eH588, aZ_sA_nc (by first | with_reducible assumption | omega)] : aZ H588 17 i = aZ H 17 i).trans (mk17 i)
    have m593 : kpM H H588 := kpM_A mkfr eH588 (by first | with_reducible assumption | omega)
    refine g_goto ?_
    exact g_ret ⟨rfl, hIH588, hJH588, m589, m590, m591, m592, m593⟩
  · refine g_aload_n rfl ?_
    refine g_iload_n rfl ?_
    refine g_iload_n rfl ?_
    refine g_iload rfl ?_
    refine g_invvv hI sm_0 rfl rfl rfl rfl (s_194 a2 (by first | with_reducible assumption | omega) a3 (by first | with_reducible assumption | omega) a4 H hI hJ) (fun H594 r595 => ?_)
    obtain ⟨hIH594, hJH594, m596, m597, m598, m599, m600⟩ := r595
    have m601 : ∀ a f, fZ H594 a f = fZ H a f := fun a f => (m596 a f).trans (mkF a f)
    have m602 : ∀ i, aZ H594 2 i = aZ H 2 i := fun i => (m597 i).trans (mk2 i)
    have m603 : ∀ i, aZ H594 19 i = aZ H 19 i := fun i => (m598 i).trans (mk19 i)
    have m604 : ∀ i, aZ H594 17 i = aZ H 17 i := fun i => (m599 i).trans (mk17 i)
    have m605 : kpM H H594 := kpM_t mkfr m600
    refine g_goto ?_
    exact g_ret ⟨rfl, hIH594, hJH594, m601, m602, m603, m604, m605⟩
  · refine g_aload_n rfl ?_
    refine g_iload_n rfl ?_
    refine g_iload_n rfl ?_
    refine g_iload rfl ?_
    refine g_invvv hI sm_0 rfl rfl rfl rfl (s_197 a2 (by first | with_reducible assumption | omega) a3 (by first | with_reducible assumption | omega) a4 H hI hJ) (fun H606 r607 => ?_)
    obtain ⟨hIH606, hJH606, m608, m609, m610, m611, m612⟩ := r607
    have m613 : ∀ a f, fZ H606 a f = fZ H a f := fun a f => (m608 a f).trans (mkF a f)
    have m614 : ∀ i, aZ H606 2 i = aZ H 2 i := fun i => (m609 i).trans (mk2 i)
    have m615 : ∀ i, aZ H606 19 i = aZ H 19 i := fun i => (m610 i).trans (mk19 i)
    have m616 : ∀ i, aZ H606 17 i = aZ H 17 i := fun i => (m611 i).trans (mk17 i)
    have m617 : kpM H H606 := kpM_t mkfr m612
    refine g_goto ?_
    exact g_ret ⟨rfl, hIH606, hJH606, m613, m614, m615, m616, m617⟩
  · refine g_aload_n rfl ?_
    refine g_gfr hI sm_0 rfl ?_
    refine g_iload_n rfl ?_
    refine g_iconst (by decide) (fun v618 kv618 => ?_)
    refine g_zastore hI sm_15 (by first | with_reducible assumption | omega) (by first | with_reducible assumption | omega) (fun H619 eH619 hIH619 => ?_)
    have hJH619 : JM H619 := JM_sA (by decide) eH619 hJ
    have m620 : ∀ a f, fZ H619 a f = fZ H a f := fun a f => (by rw [eH619, fZ_sA] : fZ H619 a f = fZ H a f).trans (mkF a f)
    have m621 : ∀ i, aZ H619 2 i = aZ H 2 i := fun i => (by rw [eH619, aZ_sA_nc (by first | with_reducible assumption | omega)] : aZ H619 2 i = aZ H 2 i).trans (mk2 i)
    have m622 : ∀ i, aZ H619 19 i = aZ H 19 i := fun i => (by rw [eH619, aZ_sA_nc (by first | with_reducible assumption | omega)] : aZ H619 19 i = aZ H 19 i).trans (mk19 i)
    have m623 : ∀ i, aZ H619 17 i = aZ H 17 i := fun i => (by rw [eH619, aZ_sA_nc (by first | with_reducible assumption | omega)] : aZ H619 17 i = aZ H 17 i).trans (mk17 i)
    have m624 : kpM H H619 := kpM_A mkfr eH619 (by first | with_reducible assumption | omega)
    refine g_goto ?_
    exact g_ret ⟨rfl, hIH619, hJH619, m620, m621, m622, m623, m624⟩
  · refine g_aload_n rfl ?_
    refine g_gfr hI sm_0 rfl ?_
    refine g_iload_n rfl ?_
    refine g_iconst (by decide) (fun v625 kv625 => ?_)
    refine g_zastore hI sm_15 (by first | with_reducible assumption | omega) (by first | with_reducible assumption | omega) (fun H626 eH626 hIH626 => ?_)
    have hJH626 : JM H626 := JM_sA (by decide) eH626 hJ
    have m627 : ∀ a f, fZ H626 a f = fZ H a f := fun a f => (by rw [eH626, fZ_sA] : fZ H626 a f = fZ H a f).trans (mkF a f)
    have m628 : ∀ i, aZ H626 2 i = aZ H 2 i := fun i => (by rw [eH626, aZ_sA_nc (by first | with_reducible assumption | omega)] : aZ H626 2 i = aZ H 2 i).trans (mk2 i)
    have m629 : ∀ i, aZ H626 19 i = aZ H 19 i := fun i => (by rw [eH626, aZ_sA_nc (by first | with_reducible assumption | omega)] : aZ H626 19 i = aZ H 19 i).trans (mk19 i)
    have m630 : ∀ i, aZ H626 17 i = aZ H 17 i := fun i => (by rw [eH626, aZ_sA_nc (by first | with_reducible assumption | omega)] : aZ H626 17 i = aZ H 17 i).trans (mk17 i)
    have m631 : kpM H H626 := kpM_A mkfr eH626 (by first | with_reducible assumption | omega)
    refine g_aload_n rfl ?_
    refine g_iload_n rfl ?_
    refine g_iload_n rfl ?_
    refine g_iload rfl ?_
    refine g_invvv hIH626 sm_0 rfl rfl rfl rfl (s_194 a2 (by first | with_reducible assumption | omega) a3 (by first | with_reducible assumption | omega) a4 H626 hIH626 hJH626) (fun H632 r633 => ?_)
    obtain ⟨hIH632, hJH632, m634, m635, m636, m637, m638⟩ := r633
    have m639 : ∀ a f, fZ H632 a f = fZ H a f := fun a f => (m634 a f).trans (m627 a f)
    have m640 : ∀ i, aZ H632 2 i = aZ H 2 i := fun i => (m635 i).trans (m628 i)
    have m641 : ∀ i, aZ H632 19 i = aZ H 19 i := fun i => (m636 i).trans (m629 i)
    have m642 : ∀ i, aZ H632 17 i = aZ H 17 i := fun i => (m637 i).trans (m630 i)
    have m643 : kpM H H632 := kpM_t m631 m638
    refine g_goto ?_
    exact g_ret ⟨rfl, hIH632, hJH632, m639, m640, m641, m642, m643⟩
  · refine g_aload_n rfl ?_
    refine g_iload_n rfl ?_
    refine g_invvv hI sm_0 rfl rfl rfl rfl (s_198 a2 (by first | with_reducible assumption | omega) H hI hJ) (fun H644 r645 => ?_)
    obtain ⟨hIH644, hJH644, m646, m647, m648, m649, m650⟩ := r645
    have m651 : ∀ a f, fZ H644 a f = fZ H a f := fun a f => (m646 a f).trans (mkF a f)
    have m652 : ∀ i, aZ H644 2 i = aZ H 2 i := fun i => (m647 i).trans (mk2 i)
    have m653 : ∀ i, aZ H644 19 i = aZ H 19 i := fun i => (m648 i).trans (mk19 i)
    have m654 : ∀ i, aZ H644 17 i = aZ H 17 i := fun i => (m649 i).trans (mk17 i)
    have m655 : kpM H H644 := kpM_t mkfr m650
    refine g_goto ?_
    exact g_ret ⟨rfl, hIH644, hJH644, m651, m652, m653, m654, m655⟩
set_option maxRecDepth 4000 in
set_option maxHeartbeats 4000000 in
/-- M.looks -/
theorem s_193 (a1 : Int32) (ha1 : 0 ≤ a1.toInt ∧ a1.toInt ≤ 59) (H : mzH) (hI : gI SM H) (hJ : JM H) : gCall 193 [.ref 0, .int a1] H (gRv (fun H' => gI SM H' ∧ JM H' ∧ (∀ a f, fZ H' a f = fZ H a f) ∧ (∀ i, aZ H' 2 i = aZ H 2 i) ∧ (∀ i, aZ H' 19 i = aZ H 19 i) ∧ (∀ i, aZ H' 17 i = aZ H 17 i) ∧ kpM H H')) := by
  have mkF : ∀ a f, fZ H a f = fZ H a f := fun _ _ => rfl
  have mk2 : ∀ i, aZ H 2 i = aZ H 2 i := fun _ => rfl
  have mk19 : ∀ i, aZ H 19 i = aZ H 19 i := fun _ => rfl
  have mk17 : ∀ i, aZ H 17 i = aZ H 17 i := fun _ => rfl
  have mkfr : kpM H H := kpM_r
  have mk7 : ∀ i, aZ H 7 i = aZ H 7 i := fun _ => rfl
  have mk8 : ∀ i, aZ H 8 i = aZ H 8 i := fun _ => rfl
  have mk9 : ∀ i, aZ H 9 i = aZ H 9 i := fun _ => rfl
  refine gG_call [(0, .ref 0), (1, .int a1)] ⟨rfl, rfl, trivial⟩ ?_
  show gG 4 zB_193 (mzBlk zB_193 0) [(0, .ref 0), (1, .int a1)] [] H 0 0 _
  refine g_aload_n rfl ?_
  refine g_gfr hI sm_0 rfl ?_
  refine g_iload_n rfl ?_
  refine g_aload_n rfl ?_
  refine g_iload_n rfl ?_
  refine g_invvi hI sm_0 rfl rfl rfl rfl (s_192 a1 (by first | with_reducible assumption | omega) H hI hJ) (fun v359 H357 r358 => ?_)
  obtain ⟨rfl, p360⟩ := r358
  refine g_iastore hI sm_20 (by first | with_reducible assumption | omega) (gz_any _) (fun H361 eH361 hIH361 => ?_)
  have hJH361 : JM H361 := JM_sA (by decide) eH361 hJ
  have m362 : ∀ a f, fZ H361 a f = fZ H a f := fun a f => (by rw [eH361, fZ_sA] : fZ H361 a f = fZ H a f).trans (mkF a f)
  have m363 : ∀ i, aZ H361 2 i = aZ H 2 i := fun i => (by rw [eH361, aZ_sA_nc (by first | with_reducible assumption | omega)] : aZ H361 2 i = aZ H 2 i).trans (mk2 i)
  have m364 : ∀ i, aZ H361 19 i = aZ H 19 i := fun i => (by rw [eH361, aZ_sA_nc (by first | with_reducible assumption | omega)] : aZ H361 19 i = aZ H 19 i).trans (mk19 i)
  have m365 : ∀ i, aZ H361 17 i = aZ H 17 i := fun i => (by rw [eH361, aZ_sA_nc (by first | with_reducible assumption | omega)] : aZ H361 17 i = aZ H 17 i).trans (mk17 i)
  have m366 : kpM H H361 := kpM_A mkfr eH361 (by first | with_reducible assumption | omega)
  have m367 : ∀ i, aZ H361 7 i = aZ H 7 i := fun i => (by rw [eH361, aZ_sA_nc (by first | with_reducible assumption | omega)] : aZ H361 7 i = aZ H 7 i).trans (mk7 i)
  have m368 : ∀ i, aZ H361 8 i = aZ H 8 i := fun i => (by rw [eH361, aZ_sA_nc (by first | with_reducible assumption | omega)] : aZ H361 8 i = aZ H 8 i).trans (mk8 i)
  have m369 : ∀ i, aZ H361 9 i = aZ H 9 i := fun i => (by rw [eH361, aZ_sA_nc (by first | with_reducible assumption | omega)] : aZ H361 9 i = aZ H 9 i).trans (mk9 i)
  have e370 : v359 = aZ H361 20 a1.toInt.toNat := by rw [eH361, aZ_sA_eq hI sm_20 (by first | with_reducible assumption | omega)]
  refine g_aload_n rfl ?_
  refine g_iload_n rfl ?_
  refine g_iconst (by decide) (fun v371 kv371 => ?_)
  refine g_invvi hIH361 sm_0 rfl rfl rfl rfl (s_182 a1 (by first | with_reducible assumption | omega) v371 (by first | with_reducible assumption | omega) H361 hIH361 (JM_n hJH361)) (fun v374 H372 r373 => ?_)
  obtain ⟨rfl, p375⟩ := r373
  have tv374 : v374 = aZ H361 2 (69 + 5 * a1.toInt + 1).toNat := by rw [p375, kv371]
  have qv374 := JN_w1 (JM_n hJH361) (by first | with_reducible assumption | omega) tv374
  refine g_istore_n (l' := [(0, .ref 0), (1, .int a1), (2, .int v374)]) rfl rfl ?_
  refine g_aload_n rfl ?_
  refine g_iload_n rfl ?_
  refine g_iconst (by decide) (fun v376 kv376 => ?_)
  refine g_invvi hIH361 sm_0 rfl rfl rfl rfl (s_182 a1 (by first | with_reducible assumption | omega) v376 (by first | with_reducible assumption | omega) H361 hIH361 (JM_n hJH361)) (fun v379 H377 r378 => ?_)
  obtain ⟨rfl, p380⟩ := r378
  have tv379 : v379 = aZ H361 2 (69 + 5 * a1.toInt + 2).toNat := by rw [p380, kv376]
  have qv379 := JN_w2 (JM_n hJH361) (by first | with_reducible assumption | omega) tv379
  refine g_istore_n (l' := [(0, .ref 0), (1, .int a1), (2, .int v374), (3, .int v379)]) rfl rfl ?_
  refine g_aload_n rfl ?_
  refine g_gfr hIH361 sm_0 rfl ?_
  refine g_iload_n rfl ?_
  refine g_ialoadk hIH361 sm_20 rfl (by first | with_reducible assumption | omega) e370 ?_
  refine g_if_ne (fun c381 => ?_) (fun c381 => ?_)
  · refine g_iload_n rfl ?_
    refine g_if_ne (fun c382 => ?_) (fun c382 => ?_)
    · refine g_iload_n rfl ?_
      refine g_bipush (by decide) (fun v383 kv383 => ?_)
      refine g_if2_ne (fun c384 => ?_) (fun c384 => ?_)
      · exact g_ret ⟨rfl, hIH361, hJH361, m362, m363, m364, m365, m366⟩
      · refine g_aload_n rfl ?_
        refine g_gfr hIH361 sm_0 rfl ?_
        refine g_iload_n rfl ?_
        refine g_ialoadk hIH361 sm_20 rfl (by first | with_reducible assumption | omega) e370 ?_
        refine g_bipush (by decide) (fun v385 kv385 => ?_)
        refine g_if2_eq (fun c386 => ?_) (fun c386 => ?_)
        · refine g_aload_n rfl ?_
          refine g_gfr hIH361 sm_0 rfl ?_
          refine g_iload_n rfl ?_
          refine g_iconst (by decide) (fun v387 kv387 => ?_)
          refine g_zastore hIH361 sm_14 (by first | with_reducible assumption | omega) (by first | with_reducible assumption | omega) (fun H388 eH388 hIH388 => ?_)
          have hJH388 : JM H388 := JM_sA (by decide) eH388 hJH361
          have m389 : ∀ a f, fZ H388 a f = fZ H a f := fun a f => (by rw [eH388, fZ_sA] : fZ H388 a f = fZ H361 a f).trans (m362 a f)
          have m390 : ∀ i, aZ H388 2 i = aZ H 2 i := fun i => (by rw [eH388, aZ_sA_nc (by first | with_reducible assumption | omega)] : aZ H388 2 i = aZ H361 2 i).trans (m363 i)
          have m391 : ∀ i, aZ H388 19 i = aZ H 19 i := fun i => (by rw [eH388, aZ_sA_nc (by first | with_reducible assumption | omega)] : aZ H388 19 i = aZ H361 19 i).trans (m364 i)
          have m392 : ∀ i, aZ H388 17 i = aZ H 17 i := fun i => (by rw [eH388, aZ_sA_nc (by first | with_reducible assumption | omega)] : aZ H388 17 i = aZ H361 17 i).trans (m365 i)
          have m393 : kpM H H388 := kpM_A m366 eH388 (by first | with_reducible assumption | omega)
          have m394 : ∀ i, aZ H388 7 i = aZ H 7 i := fun i => (by rw [eH388, aZ_sA_nc (by first | with_reducible assumption | omega)] : aZ H388 7 i = aZ H361 7 i).trans (m367 i)
          have m395 : ∀ i, aZ H388 8 i = aZ H 8 i := fun i => (by rw [eH388, aZ_sA_nc (by first | with_reducible assumption | omega)] : aZ H388 8 i = aZ H361 8 i).trans (m368 i)
          have m396 : ∀ i, aZ H388 9 i = aZ H 9 i := fun i => (by rw [eH388, aZ_sA_nc (by first | with_reducible assumption | omega)] : aZ H388 9 i = aZ H361 9 i).trans (m369 i)
          refine g_nop ?_
          exact g_ret ⟨rfl, hIH388, hJH388, m389, m390, m391, m392, m393⟩
        · refine g_aload_n rfl ?_
          refine g_gfr hIH361 sm_0 rfl ?_
          refine g_iload_n rfl ?_
          refine g_ialoadk hIH361 sm_20 rfl (by first | with_reducible assumption | omega) e370 ?_
          refine g_bipush (by decide) (fun v397 kv397 => ?_)
          refine g_if2_ne (fun c398 => ?_) (fun c398 => ?_)
          · exact g_ret ⟨rfl, hIH361, hJH361, m362, m363, m364, m365, m366⟩
          · refine g_nop ?_
            refine g_aload_n rfl ?_
            refine g_gfr hIH361 sm_0 rfl ?_
            refine g_iload_n rfl ?_
            refine g_iconst (by decide) (fun v399 kv399 => ?_)
            refine g_zastore hIH361 sm_14 (by first | with_reducible assumption | omega) (by first | with_reducible assumption | omega) (fun H400 eH400 hIH400 => ?_)
            have hJH400 : JM H400 := JM_sA (by decide) eH400 hJH361
            have m401 : ∀ a f, fZ H400 a f = fZ H a f := fun a f => (by rw [eH400, fZ_sA] : fZ H400 a f = fZ H361 a f).trans (m362 a f)
            have m402 : ∀ i, aZ H400 2 i = aZ H 2 i := fun i => (by rw [eH400, aZ_sA_nc (by first | with_reducible assumption | omega)] : aZ H400 2 i = aZ H361 2 i).trans (m363 i)
            have m403 : ∀ i, aZ H400 19 i = aZ H 19 i := fun i => (by rw [eH400, aZ_sA_nc (by first | with_reducible assumption | omega)] : aZ H400 19 i = aZ H361 19 i).trans (m364 i)
            have m404 : ∀ i, aZ H400 17 i = aZ H 17 i := fun i => (by rw [eH400, aZ_sA_nc (by first | with_reducible assumption | omega)] : aZ H400 17 i = aZ H361 17 i).trans (m365 i)
            have m405 : kpM H H400 := kpM_A m366 eH400 (by first | with_reducible assumption | omega)
            have m406 : ∀ i, aZ H400 7 i = aZ H 7 i := fun i => (by rw [eH400, aZ_sA_nc (by first | with_reducible assumption | omega)] : aZ H400 7 i = aZ H361 7 i).trans (m367 i)
            have m407 : ∀ i, aZ H400 8 i = aZ H 8 i := fun i => (by rw [eH400, aZ_sA_nc (by first | with_reducible assumption | omega)] : aZ H400 8 i = aZ H361 8 i).trans (m368 i)
            have m408 : ∀ i, aZ H400 9 i = aZ H 9 i := fun i => (by rw [eH400, aZ_sA_nc (by first | with_reducible assumption | omega)] : aZ H400 9 i = aZ H361 9 i).trans (m369 i)
            refine g_nop ?_
            exact g_ret ⟨rfl, hIH400, hJH400, m401, m402, m403, m404, m405⟩
    · refine g_aload_n rfl ?_
      refine g_gfr hIH361 sm_0 rfl ?_
      refine g_iload_n rfl ?_
      refine g_baload hIH361 sm_16 rfl (by first | with_reducible assumption | omega) (fun v409 ev409 lv409 uv409 => ?_)
      refine g_if_eq (fun c410 => ?_) (fun c410 => ?_)
      · refine g_aload_n rfl ?_
        refine g_gfr hIH361 sm_0 rfl ?_
        refine g_iload_n rfl ?_
        refine g_iconst (by decide) (fun v411 kv411 => ?_)
        refine g_zastore hIH361 sm_14 (by first | with_reducible assumption | omega) (by first | with_reducible assumption | omega) (fun H412 eH412 hIH412 => ?_)
        have hJH412 : JM H412 := JM_sA (by decide) eH412 hJH361
        have m413 : ∀ a f, fZ H412 a f = fZ H a f := fun a f => (by rw [eH412, fZ_sA] : fZ H412 a f = fZ H361 a f).trans (m362 a f)
        have m414 : ∀ i, aZ H412 2 i = aZ H 2 i := fun i => (by rw [eH412, aZ_sA_nc (by first | with_reducible assumption | omega)] : aZ H412 2 i = aZ H361 2 i).trans (m363 i)
        have m415 : ∀ i, aZ H412 19 i = aZ H 19 i := fun i => (by rw [eH412, aZ_sA_nc (by first | with_reducible assumption | omega)] : aZ H412 19 i = aZ H361 19 i).trans (m364 i)
        have m416 : ∀ i, aZ H412 17 i = aZ H 17 i := fun i => (by rw [eH412, aZ_sA_nc (by first | with_reducible assumption | omega)] : aZ H412 17 i = aZ H361 17 i).trans (m365 i)
        have m417 : kpM H H412 := kpM_A m366 eH412 (by first | with_reducible assumption | omega)
        have m418 : ∀ i, aZ H412 7 i = aZ H 7 i := fun i => (by rw [eH412, aZ_sA_nc (by first | with_reducible assumption | omega)] : aZ H412 7 i = aZ H361 7 i).trans (m367 i)
        have m419 : ∀ i, aZ H412 8 i = aZ H 8 i := fun i => (by rw [eH412, aZ_sA_nc (by first | with_reducible assumption | omega)] : aZ H412 8 i = aZ H361 8 i).trans (m368 i)
        have m420 : ∀ i, aZ H412 9 i = aZ H 9 i := fun i => (by rw [eH412, aZ_sA_nc (by first | with_reducible assumption | omega)] : aZ H412 9 i = aZ H361 9 i).trans (m369 i)
        refine g_nop ?_
        exact g_ret ⟨rfl, hIH412, hJH412, m413, m414, m415, m416, m417⟩
      · refine g_nop ?_
        refine g_iload_n rfl ?_
        refine g_bipush (by decide) (fun v421 kv421 => ?_)
        refine g_if2_ne (fun c422 => ?_) (fun c422 => ?_)
        · exact g_ret ⟨rfl, hIH361, hJH361, m362, m363, m364, m365, m366⟩
        · exfalso; omega
  · refine g_aload_n rfl ?_
    refine g_iload_n rfl ?_
    refine g_iload_n rfl ?_
    refine g_aload_n rfl ?_
    refine g_iload_n rfl ?_
    refine g_iconst (by decide) (fun v423 kv423 => ?_)
    refine g_invvi hIH361 sm_0 rfl rfl rfl rfl (s_182 a1 (by first | with_reducible assumption | omega) v423 (by first | with_reducible assumption | omega) H361 hIH361 (JM_n hJH361)) (fun v426 H424 r425 => ?_)
    obtain ⟨rfl, p427⟩ := r425
    have tv426 : v426 = aZ H361 2 (69 + 5 * a1.toInt + 3).toNat := by rw [p427, kv423]
    have qv426 := JN_w3 (JM_n hJH361) (by first | with_reducible assumption | omega) tv374 tv426
    refine g_aload_n rfl ?_
    refine g_gfr hIH361 sm_0 rfl ?_
    refine g_iload_n rfl ?_
    refine g_iaload hIH361 sm_18 rfl (by first | with_reducible assumption | omega) (fun v428 ev428 lv428 uv428 => ?_)
    refine g_aload_n rfl ?_
    refine g_iload_n rfl ?_
    refine g_iconst (by decide) (fun v429 kv429 => ?_)
    refine g_invvi hIH361 sm_0 rfl rfl rfl rfl (s_182 a1 (by first | with_reducible assumption | omega) v429 (by first | with_reducible assumption | omega) H361 hIH361 (JM_n hJH361)) (fun v432 H430 r431 => ?_)
    obtain ⟨rfl, p433⟩ := r431
    have tv432 : v432 = aZ H361 2 (69 + 5 * a1.toInt + 4).toNat := by rw [p433, kv429]
    have qv432 := JN_w4 (JM_n hJH361) (by first | with_reducible assumption | omega) tv374 tv432
    refine g_invvv hIH361 sm_0 rfl rfl rfl rfl (s_195 v374 (by first | with_reducible assumption | omega) v379 (by first | with_reducible assumption | omega) v426 v428 v432 H361 hIH361 hJH361 (by first | with_reducible assumption | omega) (by first | with_reducible assumption | omega) (by first | with_reducible assumption | omega) (RS_cg m367 m368 m369 (p360 v374 v379 v426 ((tv374.trans (m363 _))) ((tv379.trans (m363 _))) ((tv426.trans (m363 _))) (by first | with_reducible assumption | omega)))) (fun H434 r435 => ?_)
    obtain ⟨hIH434, hJH434, m436, m437, m438, m439, m440⟩ := r435
    have m441 : ∀ a f, fZ H434 a f = fZ H a f := fun a f => (m436 a f).trans (m362 a f)
    have m442 : ∀ i, aZ H434 2 i = aZ H 2 i := fun i => (m437 i).trans (m363 i)
    have m443 : ∀ i, aZ H434 19 i = aZ H 19 i := fun i => (m438 i).trans (m364 i)
    have m444 : ∀ i, aZ H434 17 i = aZ H 17 i := fun i => (m439 i).trans (m365 i)
    have m445 : kpM H H434 := kpM_t m366 m440
    refine g_goto ?_
    exact g_ret ⟨rfl, hIH434, hJH434, m441, m442, m443, m444, m445⟩
set_option maxRecDepth 4000 in
set_option maxHeartbeats 4000000 in
/-- M.runs -/
theorem s_199 (a1 : Int32) (H : mzH) (hI : gI SM H) (hJ : JN H) : gCall 199 [.ref 0, .int a1] H (gRv (fun H' => gI SM H' ∧ JM H' ∧ fZ H' 0 2 = fZ H 0 2 ∧ fZ H' 0 0 = fZ H 0 0 ∧ (∀ i, aZ H' 2 i = aZ H 2 i) ∧ (∀ i, aZ H' 17 i = aZ H 17 i) ∧ kpM H H' ∧ pmA H' (aZ H' 2 2).toInt 60)) := by
  obtain ⟨k0_2, ek0_2⟩ : ∃ z, z = fZ H 0 2 := ⟨_, rfl⟩
  have ik0_2 : k0_2.toInt = (fZ H 0 2).toInt := by rw [← ek0_2]
  have bk0_2 : 0 ≤ k0_2.toInt ∧ k0_2.toInt ≤ 900 := by rw [ek0_2]; exact fZ_of hI sm_0 rfl
  obtain ⟨k0_0, ek0_0⟩ : ∃ z, z = fZ H 0 0 := ⟨_, rfl⟩
  have ik0_0 : k0_0.toInt = (fZ H 0 0).toInt := by rw [← ek0_0]
  have mk2 : ∀ i, aZ H 2 i = aZ H 2 i := fun _ => rfl
  have mk17 : ∀ i, aZ H 17 i = aZ H 17 i := fun _ => rfl
  have mkfr : kpM H H := kpM_r
  refine gG_call [(0, .ref 0), (1, .int a1)] ⟨rfl, rfl, trivial⟩ ?_
  show gG 3 zB_199 (mzBlk zB_199 0) [(0, .ref 0), (1, .int a1)] [] H 0 0 _
  refine g_aload_n rfl ?_
  refine g_invvv hI sm_0 rfl rfl rfl rfl (s_185 H hI hJ) (fun H309 r310 => ?_)
  obtain ⟨hIH309, hJH309, w311, w312, m313, m314, m315, p316⟩ := r310
  have e317 : k0_2 = fZ H309 0 2 := ek0_2.trans w311.symm
  have e318 : k0_0 = fZ H309 0 0 := ek0_0.trans w312.symm
  have m319 : ∀ i, aZ H309 2 i = aZ H 2 i := fun i => (m313 i).trans (mk2 i)
  have m320 : ∀ i, aZ H309 17 i = aZ H 17 i := fun i => (m314 i).trans (mk17 i)
  have m321 : kpM H H309 := kpM_t mkfr m315
  refine g_iconst (by decide) (fun v322 kv322 => ?_)
  refine g_istore_n (l' := [(0, .ref 0), (1, .int a1), (2, .int v322)]) rfl rfl ?_
  refine g_nop ?_
  have L330 : ∀ (N : Nat) (v323 : Int32) (H324 : mzH), gI SM H324 → JM H324 → k0_2 = fZ H324 0 2 → k0_0 = fZ H324 0 0 → (∀ i, aZ H324 2 i = aZ H 2 i) → (∀ i, aZ H324 17 i = aZ H 17 i) → kpM H H324 → (0 ≤ v323.toInt ∧ v323.toInt ≤ 60) → pmA H324 (aZ H324 2 2).toInt 60 → (60 - v323.toInt).toNat < N → gG 3 zB_199 (mzBlk zB_199 1) [(0, .ref 0), (1, .int a1), (2, .int v323)] [] H324 0 0 (gRv (fun H' => gI SM H' ∧ JM H' ∧ fZ H' 0 2 = fZ H 0 2 ∧ fZ H' 0 0 = fZ H 0 0 ∧ (∀ i, aZ H' 2 i = aZ H 2 i) ∧ (∀ i, aZ H' 17 i = aZ H 17 i) ∧ kpM H H' ∧ pmA H' (aZ H' 2 2).toInt 60)) := by
    intro N
    induction N with
    | zero => intro v323 H324 hIH324 hJH324 e325 e326 m327 m328 m329 bv323 q1 hmL330; exact absurd hmL330 (Nat.not_lt_zero _)
    | succ N ihL330 =>
      intro v323 H324 hIH324 hJH324 e325 e326 m327 m328 m329 bv323 q1 hmL330
      refine g_iload_n rfl ?_
      refine g_aload_n rfl ?_
      refine g_gfi hIH324 sm_0 rfl (fun v331 ev331 lv331 uv331 => ?_)
      refine g_if2_ge (fun c332 => ?_) (fun c332 => ?_)
      · exact g_ret ⟨rfl, hIH324, hJH324, (e325.symm.trans ek0_2), (e326.symm.trans ek0_0), m327, m328, m329, q1⟩
      · refine g_aload_n rfl ?_
        refine g_gfr hIH324 sm_0 rfl ?_
        refine g_aload_n rfl ?_
        refine g_gfr hIH324 sm_0 rfl ?_
        refine g_iload_n rfl ?_
        refine g_iaload hIH324 sm_19 rfl (by first | with_reducible assumption | omega) (fun v333 ev333 lv333 uv333 => ?_)
        refine g_iaload hIH324 sm_18 rfl (by first | with_reducible assumption | omega) (fun v334 ev334 lv334 uv334 => ?_)
        refine g_iload_n rfl ?_
        refine g_if2_gt (fun c335 => ?_) (fun c335 => ?_)
        · exact g_ret ⟨rfl, hIH324, hJH324, (e325.symm.trans ek0_2), (e326.symm.trans ek0_0), m327, m328, m329, q1⟩
        · refine g_aload_n rfl ?_
          refine g_aload_n rfl ?_
          refine g_gfr hIH324 sm_0 rfl ?_
          refine g_iload_n rfl ?_
          refine g_ialoadk hIH324 sm_19 rfl (by first | with_reducible assumption | omega) ev333 ?_
          refine g_invvv hIH324 sm_0 rfl rfl rfl rfl (s_193 v333 (by first | with_reducible assumption | omega) H324 hIH324 hJH324) (fun H336 r337 => ?_)
          obtain ⟨hIH336, hJH336, m338, m339, m340, m341, m342⟩ := r337
          have e343 : k0_2 = fZ H336 0 2 := e325.trans (m338 0 2).symm
          have e344 : k0_0 = fZ H336 0 0 := e326.trans (m338 0 0).symm
          have m345 : ∀ i, aZ H336 2 i = aZ H 2 i := fun i => (m339 i).trans (m327 i)
          have m346 : ∀ i, aZ H336 17 i = aZ H 17 i := fun i => (m341 i).trans (m328 i)
          have m347 : kpM H H336 := kpM_t m329 m342
          refine g_iinc (l' := (fun v348 => [(0, .ref 0), (1, .int a1), (2, .int v348)])) rfl rfl (by decide) (by first | with_reducible assumption | omega) (fun _ => rfl) (fun v348 ev348 => ?_)
          refine g_goto ?_
          exact ihL330 v348 H336 hIH336 hJH336 e343 e344 m345 m346 m347 (by first | with_reducible assumption | omega) (by rw [m339 2]; exact pmA_cg m341 m340 q1) (by first | with_reducible assumption | omega)
  exact L330 _ v322 H309 hIH309 hJH309 e317 e318 m319 m320 m321 (by first | with_reducible assumption | omega) p316 (Nat.lt_succ_self _)
set_option maxRecDepth 4000 in
set_option maxHeartbeats 4000000 in
/-- M.runsAll -/
theorem s_200 (H : mzH) (hI : gI SM H) (hJ : JN H) : gCall 200 [.ref 0] H (gRv (fun H' => gI SM H' ∧ JM H' ∧ fZ H' 0 2 = fZ H 0 2 ∧ fZ H' 0 0 = fZ H 0 0 ∧ (∀ i, aZ H' 2 i = aZ H 2 i) ∧ kpM H H' ∧ (∀ q : Nat, (q : Int) < (aZ H' 2 2).toInt → ∃ p : Nat, p < 60 ∧ (aZ H' 19 p).toInt = q))) := by
  obtain ⟨k0_2, ek0_2⟩ : ∃ z, z = fZ H 0 2 := ⟨_, rfl⟩
  have ik0_2 : k0_2.toInt = (fZ H 0 2).toInt := by rw [← ek0_2]
  have bk0_2 : 0 ≤ k0_2.toInt ∧ k0_2.toInt ≤ 900 := by rw [ek0_2]; exact fZ_of hI sm_0 rfl
  obtain ⟨k0_0, ek0_0⟩ : ∃ z, z = fZ H 0 0 := ⟨_, rfl⟩
  have ik0_0 : k0_0.toInt = (fZ H 0 0).toInt := by rw [← ek0_0]
  have mk2 : ∀ i, aZ H 2 i = aZ H 2 i := fun _ => rfl
  have mkfr : kpM H H := kpM_r
  refine gG_call [(0, .ref 0)] ⟨rfl, trivial⟩ ?_
  show gG 1 zB_200 (mzBlk zB_200 0) [(0, .ref 0)] [] H 0 0 _
  refine g_aload_n rfl ?_
  refine g_invvv hI sm_0 rfl rfl rfl rfl (s_183 H hI hJ) (fun H93 r94 => ?_)
  obtain ⟨hIH93, hJH93, m95, m96, m97, p98⟩ := r94
  have e99 : k0_2 = fZ H93 0 2 := ek0_2.trans (m95 0 2).symm
  have e100 : k0_0 = fZ H93 0 0 := ek0_0.trans (m95 0 0).symm
  have m101 : ∀ i, aZ H93 2 i = aZ H 2 i := fun i => (m96 i).trans (mk2 i)
  have m102 : kpM H H93 := kpM_t mkfr m97
  refine g_aload_n rfl ?_
  refine g_sipush (by decide) (fun v103 kv103 => ?_)
  refine g_invvv hIH93 sm_0 rfl rfl rfl rfl (s_199 v103 H93 hIH93 hJH93) (fun H104 r105 => ?_)
  obtain ⟨hIH104, hJH104, w106, w107, m108, m109, m110, p111⟩ := r105
  have e112 : k0_2 = fZ H104 0 2 := e99.trans w106.symm
  have e113 : k0_0 = fZ H104 0 0 := e100.trans w107.symm
  have m114 : ∀ i, aZ H104 2 i = aZ H 2 i := fun i => (m108 i).trans (m101 i)
  have m115 : kpM H H104 := kpM_t m102 m110
  exact g_ret ⟨rfl, hIH104, hJH104, (e112.symm.trans ek0_2), (e113.symm.trans ek0_0), m114, m115, (fun q hq => by obtain ⟨p, hp, e⟩ := p111 q hq (by rw [m109 q]; exact p98 q (by rw [← m108 2]; exact hq)); exact ⟨p, by omega, e⟩)⟩
set_option maxRecDepth 4000 in
set_option maxHeartbeats 4000000 in
/-- M.runsTo -/
theorem s_201 (a1 : Int32) (H : mzH) (hI : gI SM H) (hJ : JN H) : gCall 201 [.ref 0, .int a1] H (gRv (fun H' => gI SM H' ∧ JM H' ∧ fZ H' 0 2 = fZ H 0 2 ∧ kpM H H')) := by
  obtain ⟨k0_2, ek0_2⟩ : ∃ z, z = fZ H 0 2 := ⟨_, rfl⟩
  have ik0_2 : k0_2.toInt = (fZ H 0 2).toInt := by rw [← ek0_2]
  have bk0_2 : 0 ≤ k0_2.toInt ∧ k0_2.toInt ≤ 900 := by rw [ek0_2]; exact fZ_of hI sm_0 rfl
  have mkfr : kpM H H := kpM_r
  refine gG_call [(0, .ref 0), (1, .int a1)] ⟨rfl, rfl, trivial⟩ ?_
  show gG 2 zB_201 (mzBlk zB_201 0) [(0, .ref 0), (1, .int a1)] [] H 0 0 _
  refine g_aload_n rfl ?_
  refine g_invvv hI sm_0 rfl rfl rfl rfl (s_183 H hI hJ) (fun H73 r74 => ?_)
  obtain ⟨hIH73, hJH73, m75, m76, m77, p78⟩ := r74
  have e79 : k0_2 = fZ H73 0 2 := ek0_2.trans (m75 0 2).symm
  have m80 : kpM H H73 := kpM_t mkfr m77
  refine g_aload_n rfl ?_
  refine g_iload_n rfl ?_
  refine g_invvv hIH73 sm_0 rfl rfl rfl rfl (s_199 a1 H73 hIH73 hJH73) (fun H81 r82 => ?_)
  obtain ⟨hIH81, hJH81, w83, w84, m85, m86, m87, p88⟩ := r82
  have e89 : k0_2 = fZ H81 0 2 := e79.trans w83.symm
  have m90 : kpM H H81 := kpM_t m80 m87
  exact g_ret ⟨rfl, hIH81, hJH81, (e89.symm.trans ek0_2), m90⟩
set_option maxRecDepth 4000 in
set_option maxHeartbeats 4000000 in
/-- M.whereIs -/
theorem s_202 (a1 : Int32) (ha1 : 0 ≤ a1.toInt ∧ a1.toInt ≤ 39) (H : mzH) (hI : gI SM H) (hJ : JM H) : gCall 202 [.ref 0, .int a1] H (gRi (fun v H' => H = H' ∧ (-4 ≤ v.toInt ∧ v.toInt ≤ 7))) := by
  refine gG_call [(0, .ref 0), (1, .int a1)] ⟨rfl, rfl, trivial⟩ ?_
  show gG 3 zB_202 (mzBlk zB_202 0) [(0, .ref 0), (1, .int a1)] [] H 0 0 _
  refine g_aload_n rfl ?_
  refine g_gfr hI sm_0 rfl ?_
  refine g_iload_n rfl ?_
  refine g_baload hI sm_7 rfl (by first | with_reducible assumption | omega) (fun v53 ev53 lv53 uv53 => ?_)
  refine g_if_ne (fun c54 => ?_) (fun c54 => ?_)
  · refine g_aload_n rfl ?_
    refine g_gfr hI sm_0 rfl ?_
    refine g_iload_n rfl ?_
    refine g_baload hI sm_16 rfl (by first | with_reducible assumption | omega) (fun v55 ev55 lv55 uv55 => ?_)
    refine g_if_eq (fun c56 => ?_) (fun c56 => ?_)
    · refine g_aload_n rfl ?_
      refine g_iload_n rfl ?_
      refine g_invvi hI sm_0 rfl rfl rfl rfl (s_186 a1 (by first | with_reducible assumption | omega) H hI hJ) (fun v59 H57 r58 => ?_)
      obtain ⟨rfl, bv59⟩ := r58
      refine g_istore_n (l' := [(0, .ref 0), (1, .int a1), (2, .int v59)]) rfl rfl ?_
      refine g_aload_n rfl ?_
      refine g_gfr hI sm_0 rfl ?_
      refine g_iload_n rfl ?_
      refine g_baload hI sm_15 rfl (by first | with_reducible assumption | omega) (fun v60 ev60 lv60 uv60 => ?_)
      refine g_if_eq (fun c61 => ?_) (fun c61 => ?_)
      · refine g_aload_n rfl ?_
        refine g_gfr hI sm_0 rfl ?_
        refine g_iload_n rfl ?_
        refine g_iaload hI sm_10 rfl (by first | with_reducible assumption | omega) (fun v62 ev62 lv62 uv62 => ?_)
        refine g_nop ?_
        exact g_iret ⟨_, rfl, rfl, (by first | with_reducible assumption | omega)⟩
      · refine g_bipush (by decide) (fun v63 kv63 => ?_)
        refine g_goto ?_
        exact g_iret ⟨_, rfl, rfl, (by first | with_reducible assumption | omega)⟩
    · refine g_bipush (by decide) (fun v64 kv64 => ?_)
      exact g_iret ⟨_, rfl, rfl, (by first | with_reducible assumption | omega)⟩
  · refine g_bipush (by decide) (fun v65 kv65 => ?_)
    exact g_iret ⟨_, rfl, rfl, (by first | with_reducible assumption | omega)⟩
set_option maxRecDepth 4000 in
set_option maxHeartbeats 4000000 in
/-- M.isLate -/
theorem s_205 (a1 : Int32) (ha1 : 0 ≤ a1.toInt ∧ a1.toInt ≤ 59) (H : mzH) (hI : gI SM H) (hJ : JN H) : gCall 205 [.ref 0, .int a1] H (gRi (fun v H' => H = H' ∧ (0 ≤ v.toInt ∧ v.toInt ≤ 1))) := by
  refine gG_call [(0, .ref 0), (1, .int a1)] ⟨rfl, rfl, trivial⟩ ?_
  show gG 3 zB_205 (mzBlk zB_205 0) [(0, .ref 0), (1, .int a1)] [] H 0 0 _
  refine g_iconst (by decide) (fun v226 kv226 => ?_)
  refine g_istore_n (l' := [(0, .ref 0), (1, .int a1), (2, .int v226)]) rfl rfl ?_
  refine g_nop ?_
  have L228 : ∀ (N : Nat) (v227 : Int32), (0 ≤ v227.toInt ∧ v227.toInt ≤ 59) → (59 - v227.toInt).toNat < N → gG 3 zB_205 (mzBlk zB_205 1) [(0, .ref 0), (1, .int a1), (2, .int v227)] [] H 0 0 (gRi (fun v H' => H = H' ∧ (0 ≤ v.toInt ∧ v.toInt ≤ 1))) := by
    intro N
    induction N with
    | zero => intro v227 bv227 hmL228; exact absurd hmL228 (Nat.not_lt_zero _)
    | succ N ihL228 =>
      intro v227 bv227 hmL228
      refine g_iload_n rfl ?_
      refine g_iload_n rfl ?_
      refine g_if2_ge (fun c229 => ?_) (fun c229 => ?_)
      · refine g_iconst (by decide) (fun v230 kv230 => ?_)
        exact g_zret (by first | with_reducible assumption | omega) ⟨_, rfl, rfl, (by first | with_reducible assumption | omega)⟩
      · refine g_aload_n rfl ?_
        refine g_iload_n rfl ?_
        refine g_iconst (by decide) (fun v231 kv231 => ?_)
        refine g_invvi hI sm_0 rfl rfl rfl rfl (s_182 v227 (by first | with_reducible assumption | omega) v231 (by first | with_reducible assumption | omega) H hI hJ) (fun v234 H232 r233 => ?_)
        obtain ⟨rfl, p235⟩ := r233
        have tv234 : v234 = aZ H 2 (69 + 5 * v227.toInt + 0).toNat := by rw [p235, kv231]
        refine g_aload_n rfl ?_
        refine g_iload_n rfl ?_
        refine g_iconst (by decide) (fun v236 kv236 => ?_)
        refine g_invvi hI sm_0 rfl rfl rfl rfl (s_182 a1 (by first | with_reducible assumption | omega) v236 (by first | with_reducible assumption | omega) H hI hJ) (fun v239 H237 r238 => ?_)
        obtain ⟨rfl, p240⟩ := r238
        have tv239 : v239 = aZ H 2 (69 + 5 * a1.toInt + 0).toNat := by rw [p240, kv236]
        refine g_if2_le (fun c241 => ?_) (fun c241 => ?_)
        · refine g_iinc (l' := (fun v242 => [(0, .ref 0), (1, .int a1), (2, .int v242)])) rfl rfl (by decide) (by first | with_reducible assumption | omega) (fun _ => rfl) (fun v242 ev242 => ?_)
          refine g_goto ?_
          exact ihL228 v242 (by first | with_reducible assumption | omega) (by first | with_reducible assumption | omega)
        · refine g_iconst (by decide) (fun v243 kv243 => ?_)
          exact g_zret (by first | with_reducible assumption | omega) ⟨_, rfl, rfl, (by first | with_reducible assumption | omega)⟩
  exact L228 _ v226 (by first | with_reducible assumption | omega) (Nat.lt_succ_self _)
