set_option maxRecDepth 4000 in
set_option maxHeartbeats 4000000 in
/-- M.hours -/
theorem s_179 (a1 : Int32) (a2 : Int32) (H : mzH) (hI : gI SM H) (hJ : JN H) : gCall 179 [.ref 0, .int a1, .int a2] H (gRi (fun v H' => gI SM H' ∧ JN H' ∧ fZ H' 0 2 = fZ H 0 2 ∧ kpM H H')) := by
  obtain ⟨k0_2, ek0_2⟩ : ∃ z, z = fZ H 0 2 := ⟨_, rfl⟩
  have ik0_2 : k0_2.toInt = (fZ H 0 2).toInt := by rw [← ek0_2]
  have bk0_2 : 0 ≤ k0_2.toInt ∧ k0_2.toInt ≤ 900 := by rw [ek0_2]; exact fZ_of hI sm_0 rfl
  have mkfr : kpM H H := kpM_r
  refine gG_call [(0, .ref 0), (1, .int a1), (2, .int a2)] ⟨rfl, rfl, rfl, trivial⟩ ?_
  show gG 3 zB_179 (mzBlk zB_179 0) [(0, .ref 0), (1, .int a1), (2, .int a2)] [] H 0 0 _
  refine g_aload_n rfl ?_
  refine g_iconst (by decide) (fun v109 kv109 => ?_)
  refine g_pfi hI sm_0 rfl (gz_any _) (fun H110 eH110 hIH110 => ?_)
  have hJH110 : JN H110 := JN_sF eH110 hJ
  have e111 : k0_2 = fZ H110 0 2 := by rw [eH110, fZ_sF_ne (by decide)]; exact ek0_2
  have m112 : kpM H H110 := kpM_F mkfr eH110 (by first | with_reducible assumption | omega)
  refine g_aload_n rfl ?_
  refine g_iload_n rfl ?_
  refine g_invvi hIH110 sm_0 rfl rfl rfl rfl (s_210 a1 H110 hIH110 hJH110) (fun v115 H113 r114 => ?_)
  obtain ⟨rfl, bv115, p116⟩ := r114
  refine g_if_eq (fun c117 => ?_) (fun c117 => ?_)
  · refine g_iconst (by decide) (fun v118 kv118 => ?_)
    exact g_iret ⟨_, rfl, hIH110, hJH110, (e111.symm.trans ek0_2), m112⟩
  · refine g_aload_n rfl ?_
    refine g_iload_n rfl ?_
    refine g_invvi hIH110 sm_0 rfl rfl rfl rfl (s_210 a2 H110 hIH110 hJH110) (fun v121 H119 r120 => ?_)
    obtain ⟨rfl, bv121, p122⟩ := r120
    refine g_if_ne (fun c123 => ?_) (fun c123 => ?_)
    · refine g_aload_n rfl ?_
      refine g_gfr hIH110 sm_0 rfl ?_
      refine g_bipush (by decide) (fun v124 kv124 => ?_)
      refine g_iload_n rfl ?_
      refine g_imulk' (n := 8) kv124 (by first | with_reducible assumption | omega) (fun v125 ev125 => ?_)
      refine g_iload_n rfl ?_
      refine g_iadd (by first | with_reducible assumption | omega) (fun v126 ev126 => ?_)
      refine g_iaload hIH110 sm_6 rfl (by first | with_reducible assumption | omega) (fun v127 ev127 lv127 uv127 => ?_)
      refine g_ldc (by decide) (fun v128 kv128 => ?_)
      refine g_if2_lt (fun c129 => ?_) (fun c129 => ?_)
      · refine g_aload_n rfl ?_
        refine g_gfr hIH110 sm_0 rfl ?_
        refine g_bipush (by decide) (fun v130 kv130 => ?_)
        refine g_iload_n rfl ?_
        refine g_imulk' (n := 8) kv130 (by first | with_reducible assumption | omega) (fun v131 ev131 => ?_)
        refine g_iload_n rfl ?_
        refine g_iadd (by first | with_reducible assumption | omega) (fun v132 ev132 => ?_)
        refine g_iaload hIH110 sm_6 rfl (by first | with_reducible assumption | omega) (fun v133 ev133 lv133 uv133 => ?_)
        refine g_nop ?_
        exact g_iret ⟨_, rfl, hIH110, hJH110, (e111.symm.trans ek0_2), m112⟩
      · refine g_bipush (by decide) (fun v134 kv134 => ?_)
        refine g_goto ?_
        exact g_iret ⟨_, rfl, hIH110, hJH110, (e111.symm.trans ek0_2), m112⟩
    · refine g_nop ?_
      refine g_iconst (by decide) (fun v135 kv135 => ?_)
      exact g_iret ⟨_, rfl, hIH110, hJH110, (e111.symm.trans ek0_2), m112⟩
set_option maxRecDepth 4000 in
set_option maxHeartbeats 4000000 in
/-- M.messages -/
theorem s_180 (H : mzH) (hI : gI SM H) (hJ : JN H) : gCall 180 [.ref 0] H (gRi (fun v H' => H = H' ∧ (0 ≤ v.toInt ∧ v.toInt ≤ 60) ∧ v.toInt = (aZ H 2 2).toInt)) := by
  refine gG_call [(0, .ref 0)] ⟨rfl, trivial⟩ ?_
  show gG 1 zB_180 (mzBlk zB_180 0) [(0, .ref 0)] [] H 0 0 _
  refine g_aload_n rfl ?_
  refine g_gfr hI sm_0 rfl ?_
  refine g_iconst (by decide) (fun v9 kv9 => ?_)
  refine g_iaload hI sm_2 rfl (by first | with_reducible assumption | omega) (fun v10 ev10 lv10 uv10 => ?_)
  have qv10 := JN_n22 hJ (v := v10) (by rw [ev10, show v9.toInt.toNat = 2 from by omega])
  exact g_iret ⟨_, rfl, rfl, (by first | with_reducible assumption | omega), (by rw [ev10, show v9.toInt.toNat = 2 from by omega])⟩
set_option maxRecDepth 4000 in
set_option maxHeartbeats 4000000 in
/-- M.told -/
theorem s_181 (a1 : Int32) (ha1 : 0 ≤ a1.toInt ∧ a1.toInt ≤ 59) (a2 : Int32) (ha2 : 0 ≤ a2.toInt ∧ a2.toInt ≤ 4) (H : mzH) (hI : gI SM H) (hJ : JN H) : gCall 181 [.ref 0, .int a1, .int a2] H (gRi (fun v H' => H = H' ∧ v = aZ H 2 (69 + 5 * a1.toInt + a2.toInt).toNat)) := by
  refine gG_call [(0, .ref 0), (1, .int a1), (2, .int a2)] ⟨rfl, rfl, rfl, trivial⟩ ?_
  show gG 3 zB_181 (mzBlk zB_181 0) [(0, .ref 0), (1, .int a1), (2, .int a2)] [] H 0 0 _
  refine g_aload_n rfl ?_
  refine g_gfr hI sm_0 rfl ?_
  refine g_bipush (by decide) (fun v25 kv25 => ?_)
  refine g_iconst (by decide) (fun v26 kv26 => ?_)
  refine g_iload_n rfl ?_
  refine g_imulk' (n := 5) kv26 (by first | with_reducible assumption | omega) (fun v27 ev27 => ?_)
  refine g_iadd (by first | with_reducible assumption | omega) (fun v28 ev28 => ?_)
  refine g_iload_n rfl ?_
  refine g_iadd (by first | with_reducible assumption | omega) (fun v29 ev29 => ?_)
  refine g_iaload hI sm_2 rfl (by first | with_reducible assumption | omega) (fun v30 ev30 lv30 uv30 => ?_)
  exact g_iret ⟨_, rfl, rfl, (by rw [ev30, show v29.toInt = 69 + 5 * a1.toInt + a2.toInt from by omega])⟩
set_option maxRecDepth 4000 in
set_option maxHeartbeats 4000000 in
/-- M.takesAll -/
theorem s_182 (H : mzH) (hI : gI SM H) (hJ : JN H) : gCall 182 [.ref 0] H (gRv (fun H' => gI SM H' ∧ JN H' ∧ (∀ a f, fZ H' a f = fZ H a f) ∧ (∀ i, aZ H' 2 i = aZ H 2 i) ∧ kpM H H' ∧ (∀ q : Nat, (q : Int) < (aZ H' 2 2).toInt → ¬ (aZ H' 17 q).toInt = 0))) := by
  have mkF : ∀ a f, fZ H a f = fZ H a f := fun _ _ => rfl
  have mk2 : ∀ i, aZ H 2 i = aZ H 2 i := fun _ => rfl
  have mkfr : kpM H H := kpM_r
  refine gG_call [(0, .ref 0)] ⟨rfl, trivial⟩ ?_
  show gG 2 zB_182 (mzBlk zB_182 0) [(0, .ref 0)] [] H 0 0 _
  refine g_iconst (by decide) (fun v299 kv299 => ?_)
  refine g_istore_n (l' := [(0, .ref 0), (1, .int v299)]) rfl rfl ?_
  refine g_nop ?_
  have L305 : ∀ (N : Nat) (v300 : Int32) (H301 : mzH), gI SM H301 → JN H301 → (∀ a f, fZ H301 a f = fZ H a f) → (∀ i, aZ H301 2 i = aZ H 2 i) → kpM H H301 → (0 ≤ v300.toInt ∧ v300.toInt ≤ 60) → (∀ q : Nat, q < v300.toInt.toNat → ¬ (aZ H301 17 q).toInt = 0) → (60 - v300.toInt).toNat < N → gG 2 zB_182 (mzBlk zB_182 1) [(0, .ref 0), (1, .int v300)] [] H301 0 0 (gRv (fun H' => gI SM H' ∧ JN H' ∧ (∀ a f, fZ H' a f = fZ H a f) ∧ (∀ i, aZ H' 2 i = aZ H 2 i) ∧ kpM H H' ∧ (∀ q : Nat, (q : Int) < (aZ H' 2 2).toInt → ¬ (aZ H' 17 q).toInt = 0))) := by
    intro N
    induction N with
    | zero => intro v300 H301 hIH301 hJH301 m302 m303 m304 bv300 q1 hmL305; exact absurd hmL305 (Nat.not_lt_zero _)
    | succ N ihL305 =>
      intro v300 H301 hIH301 hJH301 m302 m303 m304 bv300 q1 hmL305
      refine g_iload_n rfl ?_
      refine g_aload_n rfl ?_
      refine g_invvi hIH301 sm_0 rfl rfl rfl rfl (s_180 H301 hIH301 hJH301) (fun v308 H306 r307 => ?_)
      obtain ⟨rfl, bv308, p309⟩ := r307
      refine g_if2_ge (fun c310 => ?_) (fun c310 => ?_)
      · exact g_ret ⟨rfl, hIH301, hJH301, m302, m303, m304, (fun q hq => q1 q (by first | with_reducible assumption | omega))⟩
      · refine g_aload_n rfl ?_
        refine g_gfr hIH301 sm_0 rfl ?_
        refine g_iload_n rfl ?_
        refine g_iconst (by decide) (fun v311 kv311 => ?_)
        refine g_zastore hIH301 sm_17 (by first | with_reducible assumption | omega) (by first | with_reducible assumption | omega) (fun H312 eH312 hIH312 => ?_)
        have hJH312 : JN H312 := JN_sA (by decide) eH312 hJH301
        have m313 : ∀ a f, fZ H312 a f = fZ H a f := fun a f => (by rw [eH312, fZ_sA] : fZ H312 a f = fZ H301 a f).trans (m302 a f)
        have m314 : ∀ i, aZ H312 2 i = aZ H 2 i := fun i => (by rw [eH312, aZ_sA_nc (by first | with_reducible assumption | omega)] : aZ H312 2 i = aZ H301 2 i).trans (m303 i)
        have m315 : kpM H H312 := kpM_A m304 eH312 (by first | with_reducible assumption | omega)
        refine g_aload_n rfl ?_
        refine g_gfr hIH312 sm_0 rfl ?_
        refine g_iload_n rfl ?_
        refine g_aload_n rfl ?_
        refine g_iload_n rfl ?_
        refine g_iconst (by decide) (fun v316 kv316 => ?_)
        refine g_invvi hIH312 sm_0 rfl rfl rfl rfl (s_181 v300 (by first | with_reducible assumption | omega) v316 (by first | with_reducible assumption | omega) H312 hIH312 hJH312) (fun v319 H317 r318 => ?_)
        obtain ⟨rfl, p320⟩ := r318
        have tv319 : v319 = aZ H312 2 (69 + 5 * v300.toInt + 0).toNat := by rw [p320, kv316]
        refine g_iastore hIH312 sm_18 (by first | with_reducible assumption | omega) (gz_any _) (fun H321 eH321 hIH321 => ?_)
        have hJH321 : JN H321 := JN_sA (by decide) eH321 hJH312
        have m322 : ∀ a f, fZ H321 a f = fZ H a f := fun a f => (by rw [eH321, fZ_sA] : fZ H321 a f = fZ H312 a f).trans (m313 a f)
        have m323 : ∀ i, aZ H321 2 i = aZ H 2 i := fun i => (by rw [eH321, aZ_sA_nc (by first | with_reducible assumption | omega)] : aZ H321 2 i = aZ H312 2 i).trans (m314 i)
        have m324 : kpM H H321 := kpM_A m315 eH321 (by first | with_reducible assumption | omega)
        refine g_iinc (l' := (fun v325 => [(0, .ref 0), (1, .int v325)])) rfl rfl (by decide) (by first | with_reducible assumption | omega) (fun _ => rfl) (fun v325 ev325 => ?_)
        refine g_goto ?_
        exact ihL305 v325 H321 hIH321 hJH321 m322 m323 m324 (by first | with_reducible assumption | omega) (fun q hq => by rw [eH321, aZ_sA_nc (by decide), eH312]; if e : v300.toInt.toNat = q then (subst e; rw [aZ_sA_eq hIH301 sm_17 (by first | with_reducible assumption | omega)]; omega) else (rw [aZ_sA_ne e]; exact q1 q (by first | with_reducible assumption | omega))) (by first | with_reducible assumption | omega)
  exact L305 _ v299 H hI hJ mkF mk2 mkfr (by first | with_reducible assumption | omega) (fun q hq => absurd hq (by first | with_reducible assumption | omega)) (Nat.lt_succ_self _)
set_option maxRecDepth 4000 in
set_option maxHeartbeats 4000000 in
/-- M.sorts -/
theorem s_183 (H : mzH) (hI : gI SM H) (hJ : JM H) : gCall 183 [.ref 0] H (gRv (fun H' => gI SM H' ∧ JM H' ∧ fZ H' 0 2 = fZ H 0 2 ∧ (∀ i, aZ H' 2 i = aZ H 2 i) ∧ (∀ i, aZ H' 17 i = aZ H 17 i) ∧ kpM H H' ∧ pmA H' (aZ H' 2 2).toInt 60)) := by
  obtain ⟨k0_2, ek0_2⟩ : ∃ z, z = fZ H 0 2 := ⟨_, rfl⟩
  have ik0_2 : k0_2.toInt = (fZ H 0 2).toInt := by rw [← ek0_2]
  have bk0_2 : 0 ≤ k0_2.toInt ∧ k0_2.toInt ≤ 900 := by rw [ek0_2]; exact fZ_of hI sm_0 rfl
  have mk2 : ∀ i, aZ H 2 i = aZ H 2 i := fun _ => rfl
  have mk17 : ∀ i, aZ H 17 i = aZ H 17 i := fun _ => rfl
  have mkfr : kpM H H := kpM_r
  refine gG_call [(0, .ref 0)] ⟨rfl, trivial⟩ ?_
  show gG 3 zB_183 (mzBlk zB_183 0) [(0, .ref 0)] [] H 0 0 _
  refine g_aload_n rfl ?_
  refine g_iconst (by decide) (fun v771 kv771 => ?_)
  refine g_pfi hI sm_0 rfl (by first | with_reducible assumption | omega) (fun H772 eH772 hIH772 => ?_)
  have hJH772 : JM H772 := JM_sF eH772 hJ
  have e773 : k0_2 = fZ H772 0 2 := by rw [eH772, fZ_sF_ne (by decide)]; exact ek0_2
  have e774 : v771 = fZ H772 0 34 := by rw [eH772, fZ_sF_eq hI sm_0 rfl]
  have m775 : ∀ i, aZ H772 2 i = aZ H 2 i := fun i => (by rw [eH772, aZ_sF] : aZ H772 2 i = aZ H 2 i).trans (mk2 i)
  have m776 : ∀ i, aZ H772 17 i = aZ H 17 i := fun i => (by rw [eH772, aZ_sF] : aZ H772 17 i = aZ H 17 i).trans (mk17 i)
  have m777 : kpM H H772 := kpM_F mkfr eH772 (by first | with_reducible assumption | omega)
  have ie774 : v771.toInt = (fZ H772 0 34).toInt := by rw [← e774]
  refine g_iconst (by decide) (fun v778 kv778 => ?_)
  refine g_istore_n (l' := [(0, .ref 0), (1, .int v778)]) rfl rfl ?_
  refine g_nop ?_
  have L785 : ∀ (N : Nat) (v779 : Int32) (H780 : mzH), gI SM H780 → JM H780 → k0_2 = fZ H780 0 2 → (∀ i, aZ H780 2 i = aZ H 2 i) → (∀ i, aZ H780 17 i = aZ H 17 i) → kpM H H780 → (0 ≤ v779.toInt ∧ v779.toInt ≤ 60) → (fZ H780 0 34).toInt ≤ v779.toInt → pmA H780 v779.toInt (fZ H780 0 34).toInt → (60 - v779.toInt).toNat < N → gG 3 zB_183 (mzBlk zB_183 1) [(0, .ref 0), (1, .int v779)] [] H780 0 0 (gRv (fun H' => gI SM H' ∧ JM H' ∧ fZ H' 0 2 = fZ H 0 2 ∧ (∀ i, aZ H' 2 i = aZ H 2 i) ∧ (∀ i, aZ H' 17 i = aZ H 17 i) ∧ kpM H H' ∧ pmA H' (aZ H' 2 2).toInt 60)) := by
    intro N
    induction N with
    | zero => intro v779 H780 hIH780 hJH780 e781 m782 m783 m784 bv779 q1 q2 hmL785; exact absurd hmL785 (Nat.not_lt_zero _)
    | succ N ihL785 =>
      intro v779 H780 hIH780 hJH780 e781 m782 m783 m784 bv779 q1 q2 hmL785
      obtain ⟨k786, ek786⟩ : ∃ z, z = fZ H780 0 34 := ⟨_, rfl⟩
      have ik786 : k786.toInt = (fZ H780 0 34).toInt := by rw [← ek786]
      have bk786 : 0 ≤ k786.toInt ∧ k786.toInt ≤ 60 := by rw [ek786]; exact fZ_of hIH780 sm_0 rfl
      refine g_iload_n rfl ?_
      refine g_aload_n rfl ?_
      refine g_invvi hIH780 sm_0 rfl rfl rfl rfl (s_180 H780 hIH780 (JM_n hJH780)) (fun v789 H787 r788 => ?_)
      obtain ⟨rfl, bv789, p790⟩ := r788
      refine g_if2_ge (fun c791 => ?_) (fun c791 => ?_)
      · exact g_ret ⟨rfl, hIH780, hJH780, (e781.symm.trans ek0_2), m782, m783, m784, (pmA_le q2 (by first | with_reducible assumption | omega) (by first | with_reducible assumption | omega))⟩
      · refine g_aload_n rfl ?_
        refine g_gfr hIH780 sm_0 rfl ?_
        refine g_iload_n rfl ?_
        refine g_baload hIH780 sm_17 rfl (by first | with_reducible assumption | omega) (fun v792 ev792 lv792 uv792 => ?_)
        refine g_if_ne (fun c793 => ?_) (fun c793 => ?_)
        · refine g_aload_n rfl ?_
          refine g_gfk hIH780 sm_0 rfl ek786 ?_
          refine g_istore_n (l' := [(0, .ref 0), (1, .int v779), (2, .int k786)]) rfl rfl ?_
          refine g_nop ?_
          have L801 : ∀ (N : Nat) (v794 : Int32) (H795 : mzH), gI SM H795 → JM H795 → k0_2 = fZ H795 0 2 → k786 = fZ H795 0 34 → (∀ i, aZ H795 2 i = aZ H 2 i) → (∀ i, aZ H795 17 i = aZ H 17 i) → kpM H H795 → (0 ≤ v794.toInt ∧ v794.toInt ≤ 60) → pmB H795 v779.toInt k786.toInt v794.toInt → v794.toInt ≤ k786.toInt → (v794.toInt - (0)).toNat < N → gG 3 zB_183 (mzBlk zB_183 3) [(0, .ref 0), (1, .int v779), (2, .int v794)] [] H795 0 0 (gRv (fun H' => gI SM H' ∧ JM H' ∧ fZ H' 0 2 = fZ H 0 2 ∧ (∀ i, aZ H' 2 i = aZ H 2 i) ∧ (∀ i, aZ H' 17 i = aZ H 17 i) ∧ kpM H H' ∧ pmA H' (aZ H' 2 2).toInt 60)) := by
            intro N
            induction N with
            | zero => intro v794 H795 hIH795 hJH795 e796 e797 m798 m799 m800 bv794 q3 q4 hmL801; exact absurd hmL801 (Nat.not_lt_zero _)
            | succ N ihL801 =>
              intro v794 H795 hIH795 hJH795 e796 e797 m798 m799 m800 bv794 q3 q4 hmL801
              refine g_iload_n rfl ?_
              refine g_if_le (fun c802 => ?_) (fun c802 => ?_)
              · refine g_aload_n rfl ?_
                refine g_gfr hIH795 sm_0 rfl ?_
                refine g_iload_n rfl ?_
                refine g_iload_n rfl ?_
                refine g_iastore hIH795 sm_19 (by first | with_reducible assumption | omega) (by first | with_reducible assumption | omega) (fun H803 eH803 hIH803 => ?_)
                have hJH803 : JM H803 := JM_sA (by decide) eH803 hJH795
                have e804 : k0_2 = fZ H803 0 2 := by rw [eH803, fZ_sA]; exact e796
                have e805 : k786 = fZ H803 0 34 := by rw [eH803, fZ_sA]; exact e797
                have m806 : ∀ i, aZ H803 2 i = aZ H 2 i := fun i => (by rw [eH803, aZ_sA_nc (by first | with_reducible assumption | omega)] : aZ H803 2 i = aZ H795 2 i).trans (m798 i)
                have m807 : ∀ i, aZ H803 17 i = aZ H 17 i := fun i => (by rw [eH803, aZ_sA_nc (by first | with_reducible assumption | omega)] : aZ H803 17 i = aZ H795 17 i).trans (m799 i)
                have m808 : kpM H H803 := kpM_A m800 eH803 (by first | with_reducible assumption | omega)
                have ie805 : k786.toInt = (fZ H803 0 34).toInt := by rw [← e805]
                refine g_aload_n rfl ?_
                refine g_dup rfl ?_
                refine g_gfk hIH803 sm_0 rfl e805 ?_
                refine g_iconst (by decide) (fun v809 kv809 => ?_)
                refine g_iadd (by first | with_reducible assumption | omega) (fun v810 ev810 => ?_)
                refine g_pfi hIH803 sm_0 rfl (by first | with_reducible assumption | omega) (fun H811 eH811 hIH811 => ?_)
                have hJH811 : JM H811 := JM_sF eH811 hJH803
                have e812 : k0_2 = fZ H811 0 2 := by rw [eH811, fZ_sF_ne (by decide)]; exact e804
                have e813 : v810 = fZ H811 0 34 := by rw [eH811, fZ_sF_eq hIH803 sm_0 rfl]
                have m814 : ∀ i, aZ H811 2 i = aZ H 2 i := fun i => (by rw [eH811, aZ_sF] : aZ H811 2 i = aZ H803 2 i).trans (m806 i)
                have m815 : ∀ i, aZ H811 17 i = aZ H 17 i := fun i => (by rw [eH811, aZ_sF] : aZ H811 17 i = aZ H803 17 i).trans (m807 i)
                have m816 : kpM H H811 := kpM_F m808 eH811 (by first | with_reducible assumption | omega)
                have ie813 : v810.toInt = (fZ H811 0 34).toInt := by rw [← e813]
                refine g_nop ?_
                refine g_iinc (l' := (fun v817 => [(0, .ref 0), (1, .int v817), (2, .int v794)])) rfl rfl (by decide) (by first | with_reducible assumption | omega) (fun _ => rfl) (fun v817 ev817 => ?_)
                refine g_goto ?_
                refine gG_pick [0, 1] (l' := [(0, .ref 0), (1, .int v817)]) rfl ?_
                exact ihL785 v817 H811 hIH811 hJH811 e812 m814 m815 m816 (by first | with_reducible assumption | omega) (by first | with_reducible assumption | omega) (pmA_st hIH795 (by first | with_reducible assumption | omega) rfl eH803 (fun a i => by rw [eH811, aZ_sF]) q3 (by first | with_reducible assumption | omega) (by first | with_reducible assumption | omega)) (by first | with_reducible assumption | omega)
              · refine g_aload_n rfl ?_
                refine g_gfr hIH795 sm_0 rfl ?_
                refine g_aload_n rfl ?_
                refine g_gfr hIH795 sm_0 rfl ?_
                refine g_iload_n rfl ?_
                refine g_iconst (by decide) (fun v818 kv818 => ?_)
                refine g_isub (by first | with_reducible assumption | omega) (fun v819 ev819 => ?_)
                refine g_iaload hIH795 sm_19 rfl (by first | with_reducible assumption | omega) (fun v820 ev820 lv820 uv820 => ?_)
                refine g_iaload hIH795 sm_18 rfl (by first | with_reducible assumption | omega) (fun v821 ev821 lv821 uv821 => ?_)
                refine g_aload_n rfl ?_
                refine g_gfr hIH795 sm_0 rfl ?_
                refine g_iload_n rfl ?_
                refine g_iaload hIH795 sm_18 rfl (by first | with_reducible assumption | omega) (fun v822 ev822 lv822 uv822 => ?_)
                refine g_if2_le (fun c823 => ?_) (fun c823 => ?_)
                · refine g_aload_n rfl ?_
                  refine g_gfr hIH795 sm_0 rfl ?_
                  refine g_iload_n rfl ?_
                  refine g_iload_n rfl ?_
                  refine g_iastore hIH795 sm_19 (by first | with_reducible assumption | omega) (by first | with_reducible assumption | omega) (fun H824 eH824 hIH824 => ?_)
                  have hJH824 : JM H824 := JM_sA (by decide) eH824 hJH795
                  have e825 : k0_2 = fZ H824 0 2 := by rw [eH824, fZ_sA]; exact e796
                  have e826 : k786 = fZ H824 0 34 := by rw [eH824, fZ_sA]; exact e797
                  have m827 : ∀ i, aZ H824 2 i = aZ H 2 i := fun i => (by rw [eH824, aZ_sA_nc (by first | with_reducible assumption | omega)] : aZ H824 2 i = aZ H795 2 i).trans (m798 i)
                  have m828 : ∀ i, aZ H824 17 i = aZ H 17 i := fun i => (by rw [eH824, aZ_sA_nc (by first | with_reducible assumption | omega)] : aZ H824 17 i = aZ H795 17 i).trans (m799 i)
                  have m829 : kpM H H824 := kpM_A m800 eH824 (by first | with_reducible assumption | omega)
                  have ie826 : k786.toInt = (fZ H824 0 34).toInt := by rw [← e826]
                  refine g_aload_n rfl ?_
                  refine g_dup rfl ?_
                  refine g_gfk hIH824 sm_0 rfl e826 ?_
                  refine g_iconst (by decide) (fun v830 kv830 => ?_)
                  refine g_iadd (by first | with_reducible assumption | omega) (fun v831 ev831 => ?_)
                  refine g_pfi hIH824 sm_0 rfl (by first | with_reducible assumption | omega) (fun H832 eH832 hIH832 => ?_)
                  have hJH832 : JM H832 := JM_sF eH832 hJH824
                  have e833 : k0_2 = fZ H832 0 2 := by rw [eH832, fZ_sF_ne (by decide)]; exact e825
                  have e834 : v831 = fZ H832 0 34 := by rw [eH832, fZ_sF_eq hIH824 sm_0 rfl]
                  have m835 : ∀ i, aZ H832 2 i = aZ H 2 i := fun i => (by rw [eH832, aZ_sF] : aZ H832 2 i = aZ H824 2 i).trans (m827 i)
                  have m836 : ∀ i, aZ H832 17 i = aZ H 17 i := fun i => (by rw [eH832, aZ_sF] : aZ H832 17 i = aZ H824 17 i).trans (m828 i)
                  have m837 : kpM H H832 := kpM_F m829 eH832 (by first | with_reducible assumption | omega)
                  have ie834 : v831.toInt = (fZ H832 0 34).toInt := by rw [← e834]
                  refine g_nop ?_
                  refine g_iinc (l' := (fun v838 => [(0, .ref 0), (1, .int v838), (2, .int v794)])) rfl rfl (by decide) (by first | with_reducible assumption | omega) (fun _ => rfl) (fun v838 ev838 => ?_)
                  refine g_goto ?_
                  refine gG_pick [0, 1] (l' := [(0, .ref 0), (1, .int v838)]) rfl ?_
                  exact ihL785 v838 H832 hIH832 hJH832 e833 m835 m836 m837 (by first | with_reducible assumption | omega) (by first | with_reducible assumption | omega) (pmA_st hIH795 (by first | with_reducible assumption | omega) rfl eH824 (fun a i => by rw [eH832, aZ_sF]) q3 (by first | with_reducible assumption | omega) (by first | with_reducible assumption | omega)) (by first | with_reducible assumption | omega)
                · refine g_aload_n rfl ?_
                  refine g_gfr hIH795 sm_0 rfl ?_
                  refine g_iload_n rfl ?_
                  refine g_aload_n rfl ?_
                  refine g_gfr hIH795 sm_0 rfl ?_
                  refine g_iload_n rfl ?_
                  refine g_iconst (by decide) (fun v839 kv839 => ?_)
                  refine g_isub (by first | with_reducible assumption | omega) (fun v840 ev840 => ?_)
                  refine g_iaload hIH795 sm_19 rfl (by first | with_reducible assumption | omega) (fun v841 ev841 lv841 uv841 => ?_)
                  refine g_iastore hIH795 sm_19 (by first | with_reducible assumption | omega) (by first | with_reducible assumption | omega) (fun H842 eH842 hIH842 => ?_)
                  have hJH842 : JM H842 := JM_sA (by decide) eH842 hJH795
                  have e843 : k0_2 = fZ H842 0 2 := by rw [eH842, fZ_sA]; exact e796
                  have e844 : k786 = fZ H842 0 34 := by rw [eH842, fZ_sA]; exact e797
                  have m845 : ∀ i, aZ H842 2 i = aZ H 2 i := fun i => (by rw [eH842, aZ_sA_nc (by first | with_reducible assumption | omega)] : aZ H842 2 i = aZ H795 2 i).trans (m798 i)
                  have m846 : ∀ i, aZ H842 17 i = aZ H 17 i := fun i => (by rw [eH842, aZ_sA_nc (by first | with_reducible assumption | omega)] : aZ H842 17 i = aZ H795 17 i).trans (m799 i)
                  have m847 : kpM H H842 := kpM_A m800 eH842 (by first | with_reducible assumption | omega)
                  have ie844 : k786.toInt = (fZ H842 0 34).toInt := by rw [← e844]
                  refine g_iinc (l' := (fun v848 => [(0, .ref 0), (1, .int v779), (2, .int v848)])) rfl rfl (by decide) (by first | with_reducible assumption | omega) (fun _ => rfl) (fun v848 ev848 => ?_)
                  refine g_goto ?_
                  exact ihL801 v848 H842 hIH842 hJH842 e843 e844 m845 m846 m847 (by first | with_reducible assumption | omega) (pmB_sh hIH795 (by first | with_reducible assumption | omega) (by first | with_reducible assumption | omega) ev841 eH842 q3 (by first | with_reducible assumption | omega)) (by first | with_reducible assumption | omega) (by first | with_reducible assumption | omega)
          exact L801 _ k786 H780 hIH780 hJH780 e781 ek786 m782 m783 m784 (by first | with_reducible assumption | omega) (pmB_0 (by rw [ek786]; exact q2)) (by first | with_reducible assumption | omega) (Nat.lt_succ_self _)
        · refine g_goto ?_
          refine g_iinc (l' := (fun v849 => [(0, .ref 0), (1, .int v849)])) rfl rfl (by decide) (by first | with_reducible assumption | omega) (fun _ => rfl) (fun v849 ev849 => ?_)
          refine g_goto ?_
          exact ihL785 v849 H780 hIH780 hJH780 e781 m782 m783 m784 (by first | with_reducible assumption | omega) (by first | with_reducible assumption | omega) (pmA_skip q2 (by first | with_reducible assumption | omega) (by first | with_reducible assumption | omega) (by rw [← ev792]; omega)) (by first | with_reducible assumption | omega)
  exact L785 _ v778 H772 hIH772 hJH772 e773 m775 m776 m777 (by first | with_reducible assumption | omega) (by first | with_reducible assumption | omega) (pmA_0 (by first | with_reducible assumption | omega)) (Nat.lt_succ_self _)
set_option maxRecDepth 4000 in
set_option maxHeartbeats 4000000 in
/-- M.clears -/
theorem s_184 (H : mzH) (hI : gI SM H) (hJ : JN H) : gCall 184 [.ref 0] H (gRv (fun H' => gI SM H' ∧ JM H' ∧ fZ H' 0 2 = fZ H 0 2 ∧ (∀ i, aZ H' 2 i = aZ H 2 i) ∧ (∀ i, aZ H' 17 i = aZ H 17 i) ∧ kpM H H' ∧ pmA H' (aZ H' 2 2).toInt 60)) := by
  obtain ⟨k0_2, ek0_2⟩ : ∃ z, z = fZ H 0 2 := ⟨_, rfl⟩
  have ik0_2 : k0_2.toInt = (fZ H 0 2).toInt := by rw [← ek0_2]
  have bk0_2 : 0 ≤ k0_2.toInt ∧ k0_2.toInt ≤ 900 := by rw [ek0_2]; exact fZ_of hI sm_0 rfl
  have mk2 : ∀ i, aZ H 2 i = aZ H 2 i := fun _ => rfl
  have mk17 : ∀ i, aZ H 17 i = aZ H 17 i := fun _ => rfl
  have mkfr : kpM H H := kpM_r
  have mk3 : ∀ i, aZ H 3 i = aZ H 3 i := fun _ => rfl
  refine gG_call [(0, .ref 0)] ⟨rfl, trivial⟩ ?_
  show gG 2 zB_184 (mzBlk zB_184 0) [(0, .ref 0)] [] H 0 0 _
  refine g_iconst (by decide) (fun v601 kv601 => ?_)
  refine g_istore_n (l' := [(0, .ref 0), (1, .int v601)]) rfl rfl ?_
  refine g_nop ?_
  have L609 : ∀ (N : Nat) (v602 : Int32) (H603 : mzH), gI SM H603 → k0_2 = fZ H603 0 2 → (∀ i, aZ H603 2 i = aZ H 2 i) → (∀ i, aZ H603 17 i = aZ H 17 i) → kpM H H603 → (∀ i, aZ H603 3 i = aZ H 3 i) → (0 ≤ v602.toInt ∧ v602.toInt ≤ 40) → (∀ q, q < v602.toInt.toNat → (aZ H603 9 q).toInt = -5) → (40 - v602.toInt).toNat < N → gG 2 zB_184 (mzBlk zB_184 1) [(0, .ref 0), (1, .int v602)] [] H603 0 0 (gRv (fun H' => gI SM H' ∧ JM H' ∧ fZ H' 0 2 = fZ H 0 2 ∧ (∀ i, aZ H' 2 i = aZ H 2 i) ∧ (∀ i, aZ H' 17 i = aZ H 17 i) ∧ kpM H H' ∧ pmA H' (aZ H' 2 2).toInt 60)) := by
    intro N
    induction N with
    | zero => intro v602 H603 hIH603 e604 m605 m606 m607 m608 bv602 q1 hmL609; exact absurd hmL609 (Nat.not_lt_zero _)
    | succ N ihL609 =>
      intro v602 H603 hIH603 e604 m605 m606 m607 m608 bv602 q1 hmL609
      refine g_iload_n rfl ?_
      refine g_bipush (by decide) (fun v610 kv610 => ?_)
      refine g_if2_ge (fun c611 => ?_) (fun c611 => ?_)
      · have hJ612 : JM H603 := JM_clr hJ (fun q hq => q1 q (by first | with_reducible assumption | omega)) m605 m608
        refine g_aload_n rfl ?_
        refine g_invvv hIH603 sm_0 rfl rfl rfl rfl (s_183 H603 hIH603 hJ612) (fun H613 r614 => ?_)
        obtain ⟨hIH613, hJH613, w615, m616, m617, m618, p619⟩ := r614
        have e620 : k0_2 = fZ H613 0 2 := e604.trans w615.symm
        have m621 : ∀ i, aZ H613 2 i = aZ H 2 i := fun i => (m616 i).trans (m605 i)
        have m622 : ∀ i, aZ H613 17 i = aZ H 17 i := fun i => (m617 i).trans (m606 i)
        have m623 : kpM H H613 := kpM_t m607 m618
        exact g_ret ⟨rfl, hIH613, hJH613, (e620.symm.trans ek0_2), m621, m622, m623, p619⟩
      · refine g_aload_n rfl ?_
        refine g_gfr hIH603 sm_0 rfl ?_
        refine g_iload_n rfl ?_
        refine g_iconst (by decide) (fun v624 kv624 => ?_)
        refine g_zastore hIH603 sm_7 (by first | with_reducible assumption | omega) (by first | with_reducible assumption | omega) (fun H625 eH625 hIH625 => ?_)
        have e626 : k0_2 = fZ H625 0 2 := by rw [eH625, fZ_sA]; exact e604
        have m627 : ∀ i, aZ H625 2 i = aZ H 2 i := fun i => (by rw [eH625, aZ_sA_nc (by first | with_reducible assumption | omega)] : aZ H625 2 i = aZ H603 2 i).trans (m605 i)
        have m628 : ∀ i, aZ H625 17 i = aZ H 17 i := fun i => (by rw [eH625, aZ_sA_nc (by first | with_reducible assumption | omega)] : aZ H625 17 i = aZ H603 17 i).trans (m606 i)
        have m629 : kpM H H625 := kpM_A m607 eH625 (by first | with_reducible assumption | omega)
        have m630 : ∀ i, aZ H625 3 i = aZ H 3 i := fun i => (by rw [eH625, aZ_sA_nc (by first | with_reducible assumption | omega)] : aZ H625 3 i = aZ H603 3 i).trans (m608 i)
        refine g_aload_n rfl ?_
        refine g_gfr hIH625 sm_0 rfl ?_
        refine g_iload_n rfl ?_
        refine g_bipush (by decide) (fun v631 kv631 => ?_)
        refine g_iastore hIH625 sm_9 (by first | with_reducible assumption | omega) (by first | with_reducible assumption | omega) (fun H632 eH632 hIH632 => ?_)
        have e633 : k0_2 = fZ H632 0 2 := by rw [eH632, fZ_sA]; exact e626
        have m634 : ∀ i, aZ H632 2 i = aZ H 2 i := fun i => (by rw [eH632, aZ_sA_nc (by first | with_reducible assumption | omega)] : aZ H632 2 i = aZ H625 2 i).trans (m627 i)
        have m635 : ∀ i, aZ H632 17 i = aZ H 17 i := fun i => (by rw [eH632, aZ_sA_nc (by first | with_reducible assumption | omega)] : aZ H632 17 i = aZ H625 17 i).trans (m628 i)
        have m636 : kpM H H632 := kpM_A m629 eH632 (by first | with_reducible assumption | omega)
        have m637 : ∀ i, aZ H632 3 i = aZ H 3 i := fun i => (by rw [eH632, aZ_sA_nc (by first | with_reducible assumption | omega)] : aZ H632 3 i = aZ H625 3 i).trans (m630 i)
        refine g_aload_n rfl ?_
        refine g_gfr hIH632 sm_0 rfl ?_
        refine g_iload_n rfl ?_
        refine g_bipush (by decide) (fun v638 kv638 => ?_)
        refine g_iastore hIH632 sm_12 (by first | with_reducible assumption | omega) (gz_any _) (fun H639 eH639 hIH639 => ?_)
        have e640 : k0_2 = fZ H639 0 2 := by rw [eH639, fZ_sA]; exact e633
        have m641 : ∀ i, aZ H639 2 i = aZ H 2 i := fun i => (by rw [eH639, aZ_sA_nc (by first | with_reducible assumption | omega)] : aZ H639 2 i = aZ H632 2 i).trans (m634 i)
        have m642 : ∀ i, aZ H639 17 i = aZ H 17 i := fun i => (by rw [eH639, aZ_sA_nc (by first | with_reducible assumption | omega)] : aZ H639 17 i = aZ H632 17 i).trans (m635 i)
        have m643 : kpM H H639 := kpM_A m636 eH639 (by first | with_reducible assumption | omega)
        have m644 : ∀ i, aZ H639 3 i = aZ H 3 i := fun i => (by rw [eH639, aZ_sA_nc (by first | with_reducible assumption | omega)] : aZ H639 3 i = aZ H632 3 i).trans (m637 i)
        refine g_aload_n rfl ?_
        refine g_gfr hIH639 sm_0 rfl ?_
        refine g_iload_n rfl ?_
        refine g_iconst (by decide) (fun v645 kv645 => ?_)
        refine g_zastore hIH639 sm_13 (by first | with_reducible assumption | omega) (by first | with_reducible assumption | omega) (fun H646 eH646 hIH646 => ?_)
        have e647 : k0_2 = fZ H646 0 2 := by rw [eH646, fZ_sA]; exact e640
        have m648 : ∀ i, aZ H646 2 i = aZ H 2 i := fun i => (by rw [eH646, aZ_sA_nc (by first | with_reducible assumption | omega)] : aZ H646 2 i = aZ H639 2 i).trans (m641 i)
        have m649 : ∀ i, aZ H646 17 i = aZ H 17 i := fun i => (by rw [eH646, aZ_sA_nc (by first | with_reducible assumption | omega)] : aZ H646 17 i = aZ H639 17 i).trans (m642 i)
        have m650 : kpM H H646 := kpM_A m643 eH646 (by first | with_reducible assumption | omega)
        have m651 : ∀ i, aZ H646 3 i = aZ H 3 i := fun i => (by rw [eH646, aZ_sA_nc (by first | with_reducible assumption | omega)] : aZ H646 3 i = aZ H639 3 i).trans (m644 i)
        refine g_aload_n rfl ?_
        refine g_gfr hIH646 sm_0 rfl ?_
        refine g_iload_n rfl ?_
        refine g_iconst (by decide) (fun v652 kv652 => ?_)
        refine g_zastore hIH646 sm_14 (by first | with_reducible assumption | omega) (by first | with_reducible assumption | omega) (fun H653 eH653 hIH653 => ?_)
        have e654 : k0_2 = fZ H653 0 2 := by rw [eH653, fZ_sA]; exact e647
        have m655 : ∀ i, aZ H653 2 i = aZ H 2 i := fun i => (by rw [eH653, aZ_sA_nc (by first | with_reducible assumption | omega)] : aZ H653 2 i = aZ H646 2 i).trans (m648 i)
        have m656 : ∀ i, aZ H653 17 i = aZ H 17 i := fun i => (by rw [eH653, aZ_sA_nc (by first | with_reducible assumption | omega)] : aZ H653 17 i = aZ H646 17 i).trans (m649 i)
        have m657 : kpM H H653 := kpM_A m650 eH653 (by first | with_reducible assumption | omega)
        have m658 : ∀ i, aZ H653 3 i = aZ H 3 i := fun i => (by rw [eH653, aZ_sA_nc (by first | with_reducible assumption | omega)] : aZ H653 3 i = aZ H646 3 i).trans (m651 i)
        refine g_aload_n rfl ?_
        refine g_gfr hIH653 sm_0 rfl ?_
        refine g_iload_n rfl ?_
        refine g_iconst (by decide) (fun v659 kv659 => ?_)
        refine g_zastore hIH653 sm_15 (by first | with_reducible assumption | omega) (by first | with_reducible assumption | omega) (fun H660 eH660 hIH660 => ?_)
        have e661 : k0_2 = fZ H660 0 2 := by rw [eH660, fZ_sA]; exact e654
        have m662 : ∀ i, aZ H660 2 i = aZ H 2 i := fun i => (by rw [eH660, aZ_sA_nc (by first | with_reducible assumption | omega)] : aZ H660 2 i = aZ H653 2 i).trans (m655 i)
        have m663 : ∀ i, aZ H660 17 i = aZ H 17 i := fun i => (by rw [eH660, aZ_sA_nc (by first | with_reducible assumption | omega)] : aZ H660 17 i = aZ H653 17 i).trans (m656 i)
        have m664 : kpM H H660 := kpM_A m657 eH660 (by first | with_reducible assumption | omega)
        have m665 : ∀ i, aZ H660 3 i = aZ H 3 i := fun i => (by rw [eH660, aZ_sA_nc (by first | with_reducible assumption | omega)] : aZ H660 3 i = aZ H653 3 i).trans (m658 i)
        refine g_aload_n rfl ?_
        refine g_gfr hIH660 sm_0 rfl ?_
        refine g_iload_n rfl ?_
        refine g_iconst (by decide) (fun v666 kv666 => ?_)
        refine g_zastore hIH660 sm_16 (by first | with_reducible assumption | omega) (by first | with_reducible assumption | omega) (fun H667 eH667 hIH667 => ?_)
        have e668 : k0_2 = fZ H667 0 2 := by rw [eH667, fZ_sA]; exact e661
        have m669 : ∀ i, aZ H667 2 i = aZ H 2 i := fun i => (by rw [eH667, aZ_sA_nc (by first | with_reducible assumption | omega)] : aZ H667 2 i = aZ H660 2 i).trans (m662 i)
        have m670 : ∀ i, aZ H667 17 i = aZ H 17 i := fun i => (by rw [eH667, aZ_sA_nc (by first | with_reducible assumption | omega)] : aZ H667 17 i = aZ H660 17 i).trans (m663 i)
        have m671 : kpM H H667 := kpM_A m664 eH667 (by first | with_reducible assumption | omega)
        have m672 : ∀ i, aZ H667 3 i = aZ H 3 i := fun i => (by rw [eH667, aZ_sA_nc (by first | with_reducible assumption | omega)] : aZ H667 3 i = aZ H660 3 i).trans (m665 i)
        refine g_iinc (l' := (fun v673 => [(0, .ref 0), (1, .int v673)])) rfl rfl (by decide) (by first | with_reducible assumption | omega) (fun _ => rfl) (fun v673 ev673 => ?_)
        refine g_goto ?_
        exact ihL609 v673 H667 hIH667 e668 m669 m670 m671 m672 (by first | with_reducible assumption | omega) (fun q hq => by rw [eH667, aZ_sA_nc (by decide), eH660, aZ_sA_nc (by decide), eH653, aZ_sA_nc (by decide), eH646, aZ_sA_nc (by decide), eH639, aZ_sA_nc (by decide), eH632]; if e : v602.toInt.toNat = q then (subst e; rw [aZ_sA_eq hIH625 sm_9 (by first | with_reducible assumption | omega)]; omega) else (rw [aZ_sA_ne e, eH625, aZ_sA_nc (by decide)]; exact q1 q (by first | with_reducible assumption | omega))) (by first | with_reducible assumption | omega)
  exact L609 _ v601 H hI ek0_2 mk2 mk17 mkfr mk3 (by first | with_reducible assumption | omega) (fun q hq => absurd hq (by first | with_reducible assumption | omega)) (Nat.lt_succ_self _)
set_option maxRecDepth 4000 in
set_option maxHeartbeats 4000000 in
/-- M.topOf -/
theorem s_185 (a1 : Int32) (ha1 : 0 ≤ a1.toInt ∧ a1.toInt ≤ 39) (H : mzH) (hI : gI SM H) (hJ : JM H) : gCall 185 [.ref 0, .int a1] H (gRi (fun v H' => H = H' ∧ (0 ≤ v.toInt ∧ v.toInt ≤ 39))) := by
  refine gG_call [(0, .ref 0), (1, .int a1)] ⟨rfl, rfl, trivial⟩ ?_
  show gG 3 zB_185 (mzBlk zB_185 0) [(0, .ref 0), (1, .int a1)] [] H 0 0 _
  refine g_iload_n rfl ?_
  refine g_istore_n (l' := [(0, .ref 0), (1, .int a1), (2, .int a1)]) rfl rfl ?_
  refine g_nop ?_
  have L22 : ∀ (N : Nat) (v21 : Int32), (0 ≤ v21.toInt ∧ v21.toInt ≤ 39) → mK H v21 < N → gG 3 zB_185 (mzBlk zB_185 1) [(0, .ref 0), (1, .int a1), (2, .int v21)] [] H 0 0 (gRi (fun v H' => H = H' ∧ (0 ≤ v.toInt ∧ v.toInt ≤ 39))) := by
    intro N
    induction N with
    | zero => intro v21 bv21 hmL22; exact absurd hmL22 (Nat.not_lt_zero _)
    | succ N ihL22 =>
      intro v21 bv21 hmL22
      refine g_aload_n rfl ?_
      refine g_gfr hI sm_0 rfl ?_
      refine g_iload_n rfl ?_
      refine g_iaload hI sm_9 rfl (by first | with_reducible assumption | omega) (fun v23 ev23 lv23 uv23 => ?_)
      have qv23 := JM_in hJ (by first | with_reducible assumption | omega) ev23
      refine g_bipush (by decide) (fun v24 kv24 => ?_)
      refine g_if2_eq (fun c25 => ?_) (fun c25 => ?_)
      · refine g_iload_n rfl ?_
        exact g_iret ⟨_, rfl, rfl, (by first | with_reducible assumption | omega)⟩
      · refine g_aload_n rfl ?_
        refine g_gfr hI sm_0 rfl ?_
        refine g_iload_n rfl ?_
        refine g_ialoadk hI sm_9 rfl (by first | with_reducible assumption | omega) ev23 ?_
        refine g_istore_n (l' := [(0, .ref 0), (1, .int a1), (2, .int v23)]) rfl rfl ?_
        refine g_goto ?_
        exact ihL22 v23 (by first | with_reducible assumption | omega) (mK_up hI hJ (by first | with_reducible assumption | omega) ev23 hmL22)
  exact L22 _ a1 (by first | with_reducible assumption | omega) (Nat.lt_succ_self _)
set_option maxRecDepth 4000 in
set_option maxHeartbeats 4000000 in
/-- M.isWithin -/
theorem s_186 (a1 : Int32) (ha1 : 0 ≤ a1.toInt ∧ a1.toInt ≤ 39) (a2 : Int32) (H : mzH) (hI : gI SM H) (hJ : JM H) : gCall 186 [.ref 0, .int a1, .int a2] H (gRi (fun v H' => H = H' ∧ (0 ≤ v.toInt ∧ v.toInt ≤ 1))) := by
  refine gG_call [(0, .ref 0), (1, .int a1), (2, .int a2)] ⟨rfl, rfl, rfl, trivial⟩ ?_
  show gG 4 zB_186 (mzBlk zB_186 0) [(0, .ref 0), (1, .int a1), (2, .int a2)] [] H 0 0 _
  refine g_aload_n rfl ?_
  refine g_gfr hI sm_0 rfl ?_
  refine g_iload_n rfl ?_
  refine g_iaload hI sm_9 rfl (by first | with_reducible assumption | omega) (fun v57 ev57 lv57 uv57 => ?_)
  have qv57 := JM_in hJ (by first | with_reducible assumption | omega) ev57
  refine g_istore_n (l' := [(0, .ref 0), (1, .int a1), (2, .int a2), (3, .int v57)]) rfl rfl ?_
  refine g_nop ?_
  have L59 : ∀ (N : Nat) (v58 : Int32), (-5 ≤ v58.toInt ∧ v58.toInt ≤ 39) → (v58.toInt = -5 ∨ 0 ≤ v58.toInt) → mK H v58 < N → gG 4 zB_186 (mzBlk zB_186 1) [(0, .ref 0), (1, .int a1), (2, .int a2), (3, .int v58)] [] H 0 0 (gRi (fun v H' => H = H' ∧ (0 ≤ v.toInt ∧ v.toInt ≤ 1))) := by
    intro N
    induction N with
    | zero => intro v58 bv58 q1 hmL59; exact absurd hmL59 (Nat.not_lt_zero _)
    | succ N ihL59 =>
      intro v58 bv58 q1 hmL59
      refine g_iload_n rfl ?_
      refine g_bipush (by decide) (fun v60 kv60 => ?_)
      refine g_if2_eq (fun c61 => ?_) (fun c61 => ?_)
      · refine g_iload_n rfl ?_
        refine g_iload_n rfl ?_
        refine g_if2_ne (fun c62 => ?_) (fun c62 => ?_)
        · refine g_iconst (by decide) (fun v63 kv63 => ?_)
          refine g_nop ?_
          exact g_zret (by first | with_reducible assumption | omega) ⟨_, rfl, rfl, (by first | with_reducible assumption | omega)⟩
        · refine g_iconst (by decide) (fun v64 kv64 => ?_)
          refine g_goto ?_
          exact g_zret (by first | with_reducible assumption | omega) ⟨_, rfl, rfl, (by first | with_reducible assumption | omega)⟩
      · refine g_iload_n rfl ?_
        refine g_iload_n rfl ?_
        refine g_if2_eq (fun c65 => ?_) (fun c65 => ?_)
        · refine g_iload_n rfl ?_
          refine g_iload_n rfl ?_
          refine g_if2_ne (fun c66 => ?_) (fun c66 => ?_)
          · refine g_iconst (by decide) (fun v67 kv67 => ?_)
            refine g_nop ?_
            exact g_zret (by first | with_reducible assumption | omega) ⟨_, rfl, rfl, (by first | with_reducible assumption | omega)⟩
          · refine g_iconst (by decide) (fun v68 kv68 => ?_)
            refine g_goto ?_
            exact g_zret (by first | with_reducible assumption | omega) ⟨_, rfl, rfl, (by first | with_reducible assumption | omega)⟩
        · refine g_aload_n rfl ?_
          refine g_gfr hI sm_0 rfl ?_
          refine g_iload_n rfl ?_
          refine g_iaload hI sm_9 rfl (by first | with_reducible assumption | omega) (fun v69 ev69 lv69 uv69 => ?_)
          have qv69 := JM_in hJ (by first | with_reducible assumption | omega) ev69
          refine g_istore_n (l' := [(0, .ref 0), (1, .int a1), (2, .int a2), (3, .int v69)]) rfl rfl ?_
          refine g_goto ?_
          exact ihL59 v69 (by first | with_reducible assumption | omega) (by first | with_reducible assumption | omega) (mK_up hI hJ (by first | with_reducible assumption | omega) ev69 hmL59)
  exact L59 _ v57 (by first | with_reducible assumption | omega) (by first | with_reducible assumption | omega) (Nat.lt_succ_self _)
set_option maxRecDepth 4000 in
set_option maxHeartbeats 4000000 in
/-- M.isHeld -/
theorem s_187 (a1 : Int32) (H : mzH) (hI : gI SM H) (hJ : JM H) : gCall 187 [.ref 0, .int a1] H (gRi (fun v H' => H = H' ∧ (0 ≤ v.toInt ∧ v.toInt ≤ 1))) := by
  refine gG_call [(0, .ref 0), (1, .int a1)] ⟨rfl, rfl, trivial⟩ ?_
  show gG 3 zB_187 (mzBlk zB_187 0) [(0, .ref 0), (1, .int a1)] [] H 0 0 _
  refine g_iconst (by decide) (fun v189 kv189 => ?_)
  refine g_istore_n (l' := [(0, .ref 0), (1, .int a1), (2, .int v189)]) rfl rfl ?_
  refine g_nop ?_
  have L191 : ∀ (N : Nat) (v190 : Int32), (0 ≤ v190.toInt ∧ v190.toInt ≤ 40) → (40 - v190.toInt).toNat < N → gG 3 zB_187 (mzBlk zB_187 1) [(0, .ref 0), (1, .int a1), (2, .int v190)] [] H 0 0 (gRi (fun v H' => H = H' ∧ (0 ≤ v.toInt ∧ v.toInt ≤ 1))) := by
    intro N
    induction N with
    | zero => intro v190 bv190 hmL191; exact absurd hmL191 (Nat.not_lt_zero _)
    | succ N ihL191 =>
      intro v190 bv190 hmL191
      refine g_iload_n rfl ?_
      refine g_bipush (by decide) (fun v192 kv192 => ?_)
      refine g_if2_ge (fun c193 => ?_) (fun c193 => ?_)
      · refine g_iconst (by decide) (fun v194 kv194 => ?_)
        exact g_zret (by first | with_reducible assumption | omega) ⟨_, rfl, rfl, (by first | with_reducible assumption | omega)⟩
      · refine g_aload_n rfl ?_
        refine g_gfr hI sm_0 rfl ?_
        refine g_iload_n rfl ?_
        refine g_baload hI sm_14 rfl (by first | with_reducible assumption | omega) (fun v195 ev195 lv195 uv195 => ?_)
        refine g_if_eq (fun c196 => ?_) (fun c196 => ?_)
        · refine g_iinc (l' := (fun v197 => [(0, .ref 0), (1, .int a1), (2, .int v197)])) rfl rfl (by decide) (by first | with_reducible assumption | omega) (fun _ => rfl) (fun v197 ev197 => ?_)
          refine g_goto ?_
          exact ihL191 v197 (by first | with_reducible assumption | omega) (by first | with_reducible assumption | omega)
        · refine g_iload_n rfl ?_
          refine g_iload_n rfl ?_
          refine g_if2_eq (fun c198 => ?_) (fun c198 => ?_)
          · refine g_iconst (by decide) (fun v199 kv199 => ?_)
            exact g_zret (by first | with_reducible assumption | omega) ⟨_, rfl, rfl, (by first | with_reducible assumption | omega)⟩
          · refine g_aload_n rfl ?_
            refine g_iload_n rfl ?_
            refine g_iload_n rfl ?_
            refine g_invvi hI sm_0 rfl rfl rfl rfl (s_186 v190 (by first | with_reducible assumption | omega) a1 H hI hJ) (fun v202 H200 r201 => ?_)
            obtain ⟨rfl, bv202⟩ := r201
            refine g_if_eq (fun c203 => ?_) (fun c203 => ?_)
            · refine g_iinc (l' := (fun v204 => [(0, .ref 0), (1, .int a1), (2, .int v204)])) rfl rfl (by decide) (by first | with_reducible assumption | omega) (fun _ => rfl) (fun v204 ev204 => ?_)
              refine g_goto ?_
              exact ihL191 v204 (by first | with_reducible assumption | omega) (by first | with_reducible assumption | omega)
            · refine g_nop ?_
              refine g_iconst (by decide) (fun v205 kv205 => ?_)
              exact g_zret (by first | with_reducible assumption | omega) ⟨_, rfl, rfl, (by first | with_reducible assumption | omega)⟩
  exact L191 _ v189 (by first | with_reducible assumption | omega) (Nat.lt_succ_self _)
set_option maxRecDepth 4000 in
set_option maxHeartbeats 4000000 in
/-- M.manyIn -/
theorem s_188 (a1 : Int32) (H : mzH) (hI : gI SM H) (hJ : JN H) : gCall 188 [.ref 0, .int a1] H (gRi (fun v H' => H = H')) := by
  refine gG_call [(0, .ref 0), (1, .int a1)] ⟨rfl, rfl, trivial⟩ ?_
  show gG 4 zB_188 (mzBlk zB_188 0) [(0, .ref 0), (1, .int a1)] [] H 0 0 _
  refine g_iconst (by decide) (fun v399 kv399 => ?_)
  refine g_istore_n (l' := [(0, .ref 0), (1, .int a1), (2, .int v399)]) rfl rfl ?_
  refine g_iconst (by decide) (fun v400 kv400 => ?_)
  refine g_istore_n (l' := [(0, .ref 0), (1, .int a1), (2, .int v399), (3, .int v400)]) rfl rfl ?_
  refine g_nop ?_
  have L403 : ∀ (N : Nat) (v401 : Int32) (v402 : Int32), (0 ≤ v402.toInt ∧ v402.toInt ≤ 40) → (40 - v402.toInt).toNat < N → gG 4 zB_188 (mzBlk zB_188 1) [(0, .ref 0), (1, .int a1), (2, .int v401), (3, .int v402)] [] H 0 0 (gRi (fun v H' => H = H')) := by
    intro N
    induction N with
    | zero => intro v401 v402 bv402 hmL403; exact absurd hmL403 (Nat.not_lt_zero _)
    | succ N ihL403 =>
      intro v401 v402 bv402 hmL403
      refine g_iload_n rfl ?_
      refine g_bipush (by decide) (fun v404 kv404 => ?_)
      refine g_if2_ge (fun c405 => ?_) (fun c405 => ?_)
      · refine g_iload_n rfl ?_
        exact g_iret ⟨_, rfl, rfl⟩
      · refine g_iload_n rfl ?_
        refine g_aload_n rfl ?_
        refine g_gfr hI sm_0 rfl ?_
        refine g_iload_n rfl ?_
        refine g_iaload hI sm_9 rfl (by first | with_reducible assumption | omega) (fun v406 ev406 lv406 uv406 => ?_)
        refine g_iload_n rfl ?_
        refine g_if2_ne (fun c407 => ?_) (fun c407 => ?_)
        · refine g_iconst (by decide) (fun v408 kv408 => ?_)
          refine g_nop ?_
          refine g_iadd (by have := gz_any v401; omega) (fun v409 ev409 => ?_)
          refine g_istore_n (l' := [(0, .ref 0), (1, .int a1), (2, .int v409), (3, .int v402)]) rfl rfl ?_
          refine g_iinc (l' := (fun v410 => [(0, .ref 0), (1, .int a1), (2, .int v409), (3, .int v410)])) rfl rfl (by decide) (by first | with_reducible assumption | omega) (fun _ => rfl) (fun v410 ev410 => ?_)
          refine g_goto ?_
          exact ihL403 v409 v410 (by first | with_reducible assumption | omega) (by first | with_reducible assumption | omega)
        · refine g_iconst (by decide) (fun v411 kv411 => ?_)
          refine g_goto ?_
          refine g_iadd' (fun v412 ov412 => ?_)
          refine g_istore_n (l' := [(0, .ref 0), (1, .int a1), (2, .int v412), (3, .int v402)]) rfl rfl ?_
          refine g_iinc (l' := (fun v413 => [(0, .ref 0), (1, .int a1), (2, .int v412), (3, .int v413)])) rfl rfl (by decide) (by first | with_reducible assumption | omega) (fun _ => rfl) (fun v413 ev413 => ?_)
          refine g_goto ?_
          exact ihL403 v412 v413 (by first | with_reducible assumption | omega) (by first | with_reducible assumption | omega)
  exact L403 _ v399 v400 (by first | with_reducible assumption | omega) (Nat.lt_succ_self _)
set_option maxRecDepth 4000 in
set_option maxHeartbeats 4000000 in
/-- M.isSoon -/
theorem s_189 (a1 : Int32) (ha1 : 0 ≤ a1.toInt ∧ a1.toInt ≤ 39) (a2 : Int32) (ha2 : 0 ≤ a2.toInt ∧ a2.toInt ≤ 7) (a3 : Int32) (H : mzH) (hI : gI SM H) (hJ : JM H) : gCall 189 [.ref 0, .int a1, .int a2, .int a3] H (gRi (fun v H' => H = H' ∧ (0 ≤ v.toInt ∧ v.toInt ≤ 1))) := by
  refine gG_call [(0, .ref 0), (1, .int a1), (2, .int a2), (3, .int a3)] ⟨rfl, rfl, rfl, rfl, trivial⟩ ?_
  show gG 5 zB_189 (mzBlk zB_189 0) [(0, .ref 0), (1, .int a1), (2, .int a2), (3, .int a3)] [] H 0 0 _
  refine g_aload_n rfl ?_
  refine g_iload_n rfl ?_
  refine g_invvi hI sm_0 rfl rfl rfl rfl (s_185 a1 (by first | with_reducible assumption | omega) H hI hJ) (fun v63 H61 r62 => ?_)
  obtain ⟨rfl, bv63⟩ := r62
  refine g_istore (l' := [(0, .ref 0), (1, .int a1), (2, .int a2), (3, .int a3), (4, .int v63)]) rfl rfl ?_
  refine g_aload_n rfl ?_
  refine g_gfr hI sm_0 rfl ?_
  refine g_iload rfl ?_
  refine g_iaload hI sm_10 rfl (by first | with_reducible assumption | omega) (fun v64 ev64 lv64 uv64 => ?_)
  refine g_iload_n rfl ?_
  refine g_if2_eq (fun c65 => ?_) (fun c65 => ?_)
  · refine g_iconst (by decide) (fun v66 kv66 => ?_)
    refine g_nop ?_
    exact g_zret (by first | with_reducible assumption | omega) ⟨_, rfl, rfl, (by first | with_reducible assumption | omega)⟩
  · refine g_iload_n rfl ?_
    refine g_aload_n rfl ?_
    refine g_gfr hI sm_0 rfl ?_
    refine g_iload rfl ?_
    refine g_iaload hI sm_11 rfl (by first | with_reducible assumption | omega) (fun v67 ev67 lv67 uv67 => ?_)
    refine g_isub' (fun v68 ov68 => ?_)
    refine g_aload_n rfl ?_
    refine g_gfr hI sm_0 rfl ?_
    refine g_bipush (by decide) (fun v69 kv69 => ?_)
    refine g_aload_n rfl ?_
    refine g_gfr hI sm_0 rfl ?_
    refine g_iload rfl ?_
    refine g_ialoadk hI sm_10 rfl (by first | with_reducible assumption | omega) ev64 ?_
    refine g_imulk' (n := 8) kv69 (by first | with_reducible assumption | omega) (fun v70 ev70 => ?_)
    refine g_iload_n rfl ?_
    refine g_iadd (by first | with_reducible assumption | omega) (fun v71 ev71 => ?_)
    refine g_iaload hI sm_6 rfl (by first | with_reducible assumption | omega) (fun v72 ev72 lv72 uv72 => ?_)
    refine g_if2_ge (fun c73 => ?_) (fun c73 => ?_)
    · refine g_iconst (by decide) (fun v74 kv74 => ?_)
      refine g_nop ?_
      exact g_zret (by first | with_reducible assumption | omega) ⟨_, rfl, rfl, (by first | with_reducible assumption | omega)⟩
    · refine g_iconst (by decide) (fun v75 kv75 => ?_)
      refine g_goto ?_
      exact g_zret (by first | with_reducible assumption | omega) ⟨_, rfl, rfl, (by first | with_reducible assumption | omega)⟩
set_option maxRecDepth 4000 in
set_option maxHeartbeats 4000000 in
/-- M.isOneOf -/
theorem s_190 (a1 : Int32) (a2 : Int32) (a3 : Int32) (a4 : Int32) (H : mzH) (hI : gI SM H) (hJ : JN H) : gCall 190 [.ref 0, .int a1, .int a2, .int a3, .int a4] H (gRi (fun v H' => H = H' ∧ (0 ≤ v.toInt ∧ v.toInt ≤ 1))) := by
  refine gG_call [(0, .ref 0), (1, .int a1), (2, .int a2), (3, .int a3), (4, .int a4)] ⟨rfl, rfl, rfl, rfl, rfl, trivial⟩ ?_
  show gG 5 zB_190 (mzBlk zB_190 0) [(0, .ref 0), (1, .int a1), (2, .int a2), (3, .int a3), (4, .int a4)] [] H 0 0 _
  refine g_iload_n rfl ?_
  refine g_iload_n rfl ?_
  refine g_if2_eq (fun c29 => ?_) (fun c29 => ?_)
  · refine g_iconst (by decide) (fun v30 kv30 => ?_)
    refine g_goto ?_
    exact g_zret (by first | with_reducible assumption | omega) ⟨_, rfl, rfl, (by first | with_reducible assumption | omega)⟩
  · refine g_iload_n rfl ?_
    refine g_iload_n rfl ?_
    refine g_if2_eq (fun c31 => ?_) (fun c31 => ?_)
    · refine g_iconst (by decide) (fun v32 kv32 => ?_)
      refine g_goto ?_
      exact g_zret (by first | with_reducible assumption | omega) ⟨_, rfl, rfl, (by first | with_reducible assumption | omega)⟩
    · refine g_iload_n rfl ?_
      refine g_iload rfl ?_
      refine g_if2_ne (fun c33 => ?_) (fun c33 => ?_)
      · refine g_iconst (by decide) (fun v34 kv34 => ?_)
        refine g_nop ?_
        exact g_zret (by first | with_reducible assumption | omega) ⟨_, rfl, rfl, (by first | with_reducible assumption | omega)⟩
      · refine g_nop ?_
        refine g_iconst (by decide) (fun v35 kv35 => ?_)
        refine g_goto ?_
        exact g_zret (by first | with_reducible assumption | omega) ⟨_, rfl, rfl, (by first | with_reducible assumption | omega)⟩
set_option maxRecDepth 4000 in
set_option maxHeartbeats 4000000 in
/-- M.reason -/
theorem s_191 (a1 : Int32) (ha1 : 0 ≤ a1.toInt ∧ a1.toInt ≤ 59) (H : mzH) (hI : gI SM H) (hJ : JM H) : gCall 191 [.ref 0, .int a1] H (gRi (fun v H' => H = H' ∧ (∀ w n o : Int32, w = aZ H 2 (69 + 5 * a1.toInt + 1).toNat → n = aZ H 2 (69 + 5 * a1.toInt + 2).toNat → o = aZ H 2 (69 + 5 * a1.toInt + 3).toNat → v.toInt = 0 → RS H w n o))) := by
  refine gG_call [(0, .ref 0), (1, .int a1)] ⟨rfl, rfl, trivial⟩ ?_
  show gG 7 zB_191 (mzBlk zB_191 0) [(0, .ref 0), (1, .int a1)] [] H 0 0 _
  refine g_aload_n rfl ?_
  refine g_iload_n rfl ?_
  refine g_iconst (by decide) (fun v1861 kv1861 => ?_)
  refine g_invvi hI sm_0 rfl rfl rfl rfl (s_181 a1 (by first | with_reducible assumption | omega) v1861 (by first | with_reducible assumption | omega) H hI (JM_n hJ)) (fun v1864 H1862 r1863 => ?_)
  obtain ⟨rfl, p1865⟩ := r1863
  have tv1864 : v1864 = aZ H 2 (69 + 5 * a1.toInt + 1).toNat := by rw [p1865, kv1861]
  have qv1864 := JN_w1 (JM_n hJ) (by first | with_reducible assumption | omega) tv1864
  refine g_istore_n (l' := [(0, .ref 0), (1, .int a1), (2, .int v1864)]) rfl rfl ?_
  refine g_aload_n rfl ?_
  refine g_iload_n rfl ?_
  refine g_iconst (by decide) (fun v1866 kv1866 => ?_)
  refine g_invvi hI sm_0 rfl rfl rfl rfl (s_181 a1 (by first | with_reducible assumption | omega) v1866 (by first | with_reducible assumption | omega) H hI (JM_n hJ)) (fun v1869 H1867 r1868 => ?_)
  obtain ⟨rfl, p1870⟩ := r1868
  have tv1869 : v1869 = aZ H 2 (69 + 5 * a1.toInt + 2).toNat := by rw [p1870, kv1866]
  have qv1869 := JN_w2 (JM_n hJ) (by first | with_reducible assumption | omega) tv1869
  refine g_istore_n (l' := [(0, .ref 0), (1, .int a1), (2, .int v1864), (3, .int v1869)]) rfl rfl ?_
  refine g_aload_n rfl ?_
  refine g_iload_n rfl ?_
  refine g_iconst (by decide) (fun v1871 kv1871 => ?_)
  refine g_invvi hI sm_0 rfl rfl rfl rfl (s_181 a1 (by first | with_reducible assumption | omega) v1871 (by first | with_reducible assumption | omega) H hI (JM_n hJ)) (fun v1874 H1872 r1873 => ?_)
  obtain ⟨rfl, p1875⟩ := r1873
  have tv1874 : v1874 = aZ H 2 (69 + 5 * a1.toInt + 3).toNat := by rw [p1875, kv1871]
  have qv1874 := JN_w3 (JM_n hJ) (by first | with_reducible assumption | omega) tv1864 tv1874
  refine g_istore (l' := [(0, .ref 0), (1, .int a1), (2, .int v1864), (3, .int v1869), (4, .int v1874)]) rfl rfl ?_
  refine g_iload_n rfl ?_
  refine g_iconst (by decide) (fun v1876 kv1876 => ?_)
  refine g_if2_ne (fun c1877 => ?_) (fun c1877 => ?_)
  · refine g_iconst (by decide) (fun v1878 kv1878 => ?_)
    refine g_nop ?_
    refine g_istore (l' := [(0, .ref 0), (1, .int a1), (2, .int v1864), (3, .int v1869), (4, .int v1874), (5, .int v1878)]) rfl rfl ?_
    refine g_iload_n rfl ?_
    refine g_if_ne (fun c1879 => ?_) (fun c1879 => ?_)
    · refine g_aload_n rfl ?_
      refine g_gfr hI sm_0 rfl ?_
      refine g_iload_n rfl ?_
      refine g_baload hI sm_7 rfl (by first | with_reducible assumption | omega) (fun v1880 ev1880 lv1880 uv1880 => ?_)
      have yv1880 : v1880.toInt = (aZ H 7 v1869.toInt.toNat).toInt := by rw [ev1880]
      refine g_if_eq (fun c1881 => ?_) (fun c1881 => ?_)
      · refine g_iconst (by decide) (fun v1882 kv1882 => ?_)
        exact g_iret ⟨_, rfl, rfl, (fun w n o ew en eo hv => by rw [show w = v1864 from ew.trans tv1864.symm, show n = v1869 from en.trans tv1869.symm, show o = v1874 from eo.trans tv1874.symm]; first | (exfalso; omega) | exact ⟨fun _ => by omega, fun _ => by omega, fun _ => by omega⟩)⟩
      · refine g_iload rfl ?_
        refine g_if_eq (fun c1883 => ?_) (fun c1883 => ?_)
        · refine g_aload_n rfl ?_
          refine g_gfr hI sm_0 rfl ?_
          refine g_iload_n rfl ?_
          refine g_baload hI sm_16 rfl (by first | with_reducible assumption | omega) (fun v1884 ev1884 lv1884 uv1884 => ?_)
          refine g_if_ne (fun c1885 => ?_) (fun c1885 => ?_)
          · refine g_iconst (by decide) (fun v1886 kv1886 => ?_)
            exact g_iret ⟨_, rfl, rfl, (fun w n o ew en eo hv => by rw [show w = v1864 from ew.trans tv1864.symm, show n = v1869 from en.trans tv1869.symm, show o = v1874 from eo.trans tv1874.symm]; first | (exfalso; omega) | exact ⟨fun _ => by omega, fun _ => by omega, fun _ => by omega⟩)⟩
          · refine g_iload rfl ?_
            refine g_if_eq (fun c1887 => ?_) (fun c1887 => ?_)
            · refine g_iload rfl ?_
              refine g_if_eq (fun c1888 => ?_) (fun c1888 => ?_)
              · refine g_iload rfl ?_
                refine g_if_eq (fun c1889 => ?_) (fun c1889 => ?_)
                · refine g_iload_n rfl ?_
                  refine g_iconst (by decide) (fun v1890 kv1890 => ?_)
                  refine g_if2_ne (fun c1891 => ?_) (fun c1891 => ?_)
                  · refine g_iload_n rfl ?_
                    refine g_iconst (by decide) (fun v1892 kv1892 => ?_)
                    refine g_if2_lt (fun c1893 => ?_) (fun c1893 => ?_)
                    · exfalso; omega
                    · refine g_iload_n rfl ?_
                      refine g_bipush (by decide) (fun v1894 kv1894 => ?_)
                      refine g_if2_gt (fun c1895 => ?_) (fun c1895 => ?_)
                      · refine g_iconst (by decide) (fun v1896 kv1896 => ?_)
                        refine g_nop ?_
                        refine g_istore (l' := [(0, .ref 0), (1, .int a1), (2, .int v1864), (3, .int v1869), (4, .int v1874), (5, .int v1878), (6, .int v1896)]) rfl rfl ?_
                        refine g_iload rfl ?_
                        refine g_if_eq (fun c1897 => ?_) (fun c1897 => ?_)
                        · refine g_iload rfl ?_
                          refine g_if_eq (fun c1898 => ?_) (fun c1898 => ?_)
                          · refine g_iload_n rfl ?_
                            refine g_bipush (by decide) (fun v1899 kv1899 => ?_)
                            refine g_if2_ne (fun c1900 => ?_) (fun c1900 => ?_)
                            · refine g_iload rfl ?_
                              refine g_if_eq (fun c1901 => ?_) (fun c1901 => ?_)
                              · refine g_iload_n rfl ?_
                                refine g_iconst (by decide) (fun v1902 kv1902 => ?_)
                                refine g_if2_ne (fun c1903 => ?_) (fun c1903 => ?_)
                                · refine g_iload_n rfl ?_
                                  refine g_iconst (by decide) (fun v1904 kv1904 => ?_)
                                  refine g_if2_ne (fun c1905 => ?_) (fun c1905 => ?_)
                                  · refine g_aload_n rfl ?_
                                    refine g_iload_n rfl ?_
                                    refine g_iconst (by decide) (fun v1906 kv1906 => ?_)
                                    refine g_bipush (by decide) (fun v1907 kv1907 => ?_)
                                    refine g_bipush (by decide) (fun v1908 kv1908 => ?_)
                                    refine g_invvi hI sm_0 rfl rfl rfl rfl (s_190 v1864 v1906 v1907 v1908 H hI (JM_n hJ)) (fun v1911 H1909 r1910 => ?_)
                                    obtain ⟨rfl, bv1911⟩ := r1910
                                    refine g_if_eq (fun c1912 => ?_) (fun c1912 => ?_)
                                    · refine g_iload_n rfl ?_
                                      refine g_iconst (by decide) (fun v1913 kv1913 => ?_)
                                      refine g_if2_eq (fun c1914 => ?_) (fun c1914 => ?_)
                                      · exfalso; omega
                                      · refine g_iload_n rfl ?_
                                        refine g_bipush (by decide) (fun v1915 kv1915 => ?_)
                                        refine g_if2_ne (fun c1916 => ?_) (fun c1916 => ?_)
                                        · refine g_iload rfl ?_
                                          refine g_if_ne (fun c1917 => ?_) (fun c1917 => ?_)
                                          · exfalso; omega
                                          · refine g_iload_n rfl ?_
                                            refine g_bipush (by decide) (fun v1918 kv1918 => ?_)
                                            refine g_if2_ne (fun c1919 => ?_) (fun c1919 => ?_)
                                            · refine g_iload_n rfl ?_
                                              refine g_bipush (by decide) (fun v1920 kv1920 => ?_)
                                              refine g_if2_ne (fun c1921 => ?_) (fun c1921 => ?_)
                                              · refine g_iconst (by decide) (fun v1922 kv1922 => ?_)
                                                refine g_nop ?_
                                                exact g_iret ⟨_, rfl, rfl, (fun w n o ew en eo hv => by rw [show w = v1864 from ew.trans tv1864.symm, show n = v1869 from en.trans tv1869.symm, show o = v1874 from eo.trans tv1874.symm]; first | (exfalso; omega) | exact ⟨fun _ => by omega, fun _ => by omega, fun _ => by omega⟩)⟩
                                              · refine g_aload_n rfl ?_
                                                refine g_gfr hI sm_0 rfl ?_
                                                refine g_iload_n rfl ?_
                                                refine g_baload hI sm_14 rfl (by first | with_reducible assumption | omega) (fun v1923 ev1923 lv1923 uv1923 => ?_)
                                                refine g_if_ne (fun c1924 => ?_) (fun c1924 => ?_)
                                                · refine g_iconst (by decide) (fun v1925 kv1925 => ?_)
                                                  refine g_nop ?_
                                                  exact g_iret ⟨_, rfl, rfl, (fun w n o ew en eo hv => by rw [show w = v1864 from ew.trans tv1864.symm, show n = v1869 from en.trans tv1869.symm, show o = v1874 from eo.trans tv1874.symm]; first | (exfalso; omega) | exact ⟨fun _ => by omega, fun _ => by omega, fun _ => by omega⟩)⟩
                                                · refine g_bipush (by decide) (fun v1926 kv1926 => ?_)
                                                  refine g_goto ?_
                                                  exact g_iret ⟨_, rfl, rfl, (fun w n o ew en eo hv => by rw [show w = v1864 from ew.trans tv1864.symm, show n = v1869 from en.trans tv1869.symm, show o = v1874 from eo.trans tv1874.symm]; first | (exfalso; omega) | exact ⟨fun _ => by omega, fun _ => by omega, fun _ => by omega⟩)⟩
                                            · exfalso; omega
                                        · exfalso; omega
                                    · refine g_aload_n rfl ?_
                                      refine g_gfr hI sm_0 rfl ?_
                                      refine g_iload_n rfl ?_
                                      refine g_iaload hI sm_9 rfl (by first | with_reducible assumption | omega) (fun v1927 ev1927 lv1927 uv1927 => ?_)
                                      have qv1927 := JM_in hJ (by first | with_reducible assumption | omega) ev1927
                                      have yv1927 : v1927.toInt = (aZ H 9 v1869.toInt.toNat).toInt := by rw [ev1927]
                                      refine g_bipush (by decide) (fun v1928 kv1928 => ?_)
                                      refine g_if2_eq (fun c1929 => ?_) (fun c1929 => ?_)
                                      · refine g_iload_n rfl ?_
                                        refine g_iconst (by decide) (fun v1930 kv1930 => ?_)
                                        refine g_if2_eq (fun c1931 => ?_) (fun c1931 => ?_)
                                        · exfalso; omega
                                        · refine g_iload_n rfl ?_
                                          refine g_bipush (by decide) (fun v1932 kv1932 => ?_)
                                          refine g_if2_ne (fun c1933 => ?_) (fun c1933 => ?_)
                                          · refine g_iload rfl ?_
                                            refine g_if_ne (fun c1934 => ?_) (fun c1934 => ?_)
                                            · exfalso; omega
                                            · refine g_iload_n rfl ?_
                                              refine g_bipush (by decide) (fun v1935 kv1935 => ?_)
                                              refine g_if2_ne (fun c1936 => ?_) (fun c1936 => ?_)
                                              · refine g_iload_n rfl ?_
                                                refine g_bipush (by decide) (fun v1937 kv1937 => ?_)
                                                refine g_if2_ne (fun c1938 => ?_) (fun c1938 => ?_)
                                                · refine g_iconst (by decide) (fun v1939 kv1939 => ?_)
                                                  refine g_nop ?_
                                                  exact g_iret ⟨_, rfl, rfl, (fun w n o ew en eo hv => by rw [show w = v1864 from ew.trans tv1864.symm, show n = v1869 from en.trans tv1869.symm, show o = v1874 from eo.trans tv1874.symm]; first | (exfalso; omega) | exact ⟨fun _ => by omega, fun _ => by omega, fun _ => by omega⟩)⟩
                                                · refine g_aload_n rfl ?_
                                                  refine g_gfr hI sm_0 rfl ?_
                                                  refine g_iload_n rfl ?_
                                                  refine g_baload hI sm_14 rfl (by first | with_reducible assumption | omega) (fun v1940 ev1940 lv1940 uv1940 => ?_)
                                                  refine g_if_ne (fun c1941 => ?_) (fun c1941 => ?_)
                                                  · refine g_iconst (by decide) (fun v1942 kv1942 => ?_)
                                                    refine g_nop ?_
                                                    exact g_iret ⟨_, rfl, rfl, (fun w n o ew en eo hv => by rw [show w = v1864 from ew.trans tv1864.symm, show n = v1869 from en.trans tv1869.symm, show o = v1874 from eo.trans tv1874.symm]; first | (exfalso; omega) | exact ⟨fun _ => by omega, fun _ => by omega, fun _ => by omega⟩)⟩
                                                  · refine g_bipush (by decide) (fun v1943 kv1943 => ?_)
                                                    refine g_goto ?_
                                                    exact g_iret ⟨_, rfl, rfl, (fun w n o ew en eo hv => by rw [show w = v1864 from ew.trans tv1864.symm, show n = v1869 from en.trans tv1869.symm, show o = v1874 from eo.trans tv1874.symm]; first | (exfalso; omega) | exact ⟨fun _ => by omega, fun _ => by omega, fun _ => by omega⟩)⟩
                                              · exfalso; omega
                                          · exfalso; omega
                                      · refine g_bipush (by decide) (fun v1944 kv1944 => ?_)
                                        exact g_iret ⟨_, rfl, rfl, (fun w n o ew en eo hv => by rw [show w = v1864 from ew.trans tv1864.symm, show n = v1869 from en.trans tv1869.symm, show o = v1874 from eo.trans tv1874.symm]; first | (exfalso; omega) | exact ⟨fun _ => by omega, fun _ => by omega, fun _ => by omega⟩)⟩
                                  · exfalso; omega
                                · exfalso; omega
                              · exfalso; omega
                            · refine g_aload_n rfl ?_
                              refine g_gfr hI sm_0 rfl ?_
                              refine g_iload_n rfl ?_
                              refine g_iaload hI sm_9 rfl (by first | with_reducible assumption | omega) (fun v1945 ev1945 lv1945 uv1945 => ?_)
                              have qv1945 := JM_in hJ (by first | with_reducible assumption | omega) ev1945
                              have yv1945 : v1945.toInt = (aZ H 9 v1869.toInt.toNat).toInt := by rw [ev1945]
                              refine g_bipush (by decide) (fun v1946 kv1946 => ?_)
                              refine g_if2_ne (fun c1947 => ?_) (fun c1947 => ?_)
                              · refine g_bipush (by decide) (fun v1948 kv1948 => ?_)
                                exact g_iret ⟨_, rfl, rfl, (fun w n o ew en eo hv => by rw [show w = v1864 from ew.trans tv1864.symm, show n = v1869 from en.trans tv1869.symm, show o = v1874 from eo.trans tv1874.symm]; first | (exfalso; omega) | exact ⟨fun _ => by omega, fun _ => by omega, fun _ => by omega⟩)⟩
                              · refine g_aload_n rfl ?_
                                refine g_gfr hI sm_0 rfl ?_
                                refine g_iload_n rfl ?_
                                refine g_baload hI sm_15 rfl (by first | with_reducible assumption | omega) (fun v1949 ev1949 lv1949 uv1949 => ?_)
                                refine g_if_ne (fun c1950 => ?_) (fun c1950 => ?_)
                                · refine g_iload rfl ?_
                                  refine g_if_eq (fun c1951 => ?_) (fun c1951 => ?_)
                                  · refine g_iload_n rfl ?_
                                    refine g_iconst (by decide) (fun v1952 kv1952 => ?_)
                                    refine g_if2_ne (fun c1953 => ?_) (fun c1953 => ?_)
                                    · refine g_iload_n rfl ?_
                                      refine g_iconst (by decide) (fun v1954 kv1954 => ?_)
                                      refine g_if2_ne (fun c1955 => ?_) (fun c1955 => ?_)
                                      · refine g_aload_n rfl ?_
                                        refine g_iload_n rfl ?_
                                        refine g_iconst (by decide) (fun v1956 kv1956 => ?_)
                                        refine g_bipush (by decide) (fun v1957 kv1957 => ?_)
                                        refine g_bipush (by decide) (fun v1958 kv1958 => ?_)
                                        refine g_invvi hI sm_0 rfl rfl rfl rfl (s_190 v1864 v1956 v1957 v1958 H hI (JM_n hJ)) (fun v1961 H1959 r1960 => ?_)
                                        obtain ⟨rfl, bv1961⟩ := r1960
                                        refine g_if_eq (fun c1962 => ?_) (fun c1962 => ?_)
                                        · refine g_iload_n rfl ?_
                                          refine g_iconst (by decide) (fun v1963 kv1963 => ?_)
                                          refine g_if2_eq (fun c1964 => ?_) (fun c1964 => ?_)
                                          · exfalso; omega
                                          · refine g_iload_n rfl ?_
                                            refine g_bipush (by decide) (fun v1965 kv1965 => ?_)
                                            refine g_if2_ne (fun c1966 => ?_) (fun c1966 => ?_)
                                            · refine g_iload rfl ?_
                                              refine g_if_ne (fun c1967 => ?_) (fun c1967 => ?_)
                                              · exfalso; omega
                                              · refine g_iload_n rfl ?_
                                                refine g_bipush (by decide) (fun v1968 kv1968 => ?_)
                                                refine g_if2_ne (fun c1969 => ?_) (fun c1969 => ?_)
                                                · refine g_iload_n rfl ?_
                                                  refine g_bipush (by decide) (fun v1970 kv1970 => ?_)
                                                  refine g_if2_ne (fun c1971 => ?_) (fun c1971 => ?_)
                                                  · refine g_iconst (by decide) (fun v1972 kv1972 => ?_)
                                                    refine g_nop ?_
                                                    exact g_iret ⟨_, rfl, rfl, (fun w n o ew en eo hv => by rw [show w = v1864 from ew.trans tv1864.symm, show n = v1869 from en.trans tv1869.symm, show o = v1874 from eo.trans tv1874.symm]; first | (exfalso; omega) | exact ⟨fun _ => by omega, fun _ => by omega, fun _ => by omega⟩)⟩
                                                  · exfalso; omega
                                                · exfalso; omega
                                            · exfalso; omega
                                        · refine g_aload_n rfl ?_
                                          refine g_gfr hI sm_0 rfl ?_
                                          refine g_iload_n rfl ?_
                                          refine g_ialoadk hI sm_9 rfl (by first | with_reducible assumption | omega) ev1945 ?_
                                          refine g_bipush (by decide) (fun v1973 kv1973 => ?_)
                                          refine g_if2_eq (fun c1974 => ?_) (fun c1974 => ?_)
                                          · refine g_iload_n rfl ?_
                                            refine g_iconst (by decide) (fun v1975 kv1975 => ?_)
                                            refine g_if2_eq (fun c1976 => ?_) (fun c1976 => ?_)
                                            · exfalso; omega
                                            · refine g_iload_n rfl ?_
                                              refine g_bipush (by decide) (fun v1977 kv1977 => ?_)
                                              refine g_if2_ne (fun c1978 => ?_) (fun c1978 => ?_)
                                              · refine g_iload rfl ?_
                                                refine g_if_ne (fun c1979 => ?_) (fun c1979 => ?_)
                                                · exfalso; omega
                                                · refine g_iload_n rfl ?_
                                                  refine g_bipush (by decide) (fun v1980 kv1980 => ?_)
                                                  refine g_if2_ne (fun c1981 => ?_) (fun c1981 => ?_)
                                                  · refine g_iload_n rfl ?_
                                                    refine g_bipush (by decide) (fun v1982 kv1982 => ?_)
                                                    refine g_if2_ne (fun c1983 => ?_) (fun c1983 => ?_)
                                                    · refine g_iconst (by decide) (fun v1984 kv1984 => ?_)
                                                      refine g_nop ?_
                                                      exact g_iret ⟨_, rfl, rfl, (fun w n o ew en eo hv => by rw [show w = v1864 from ew.trans tv1864.symm, show n = v1869 from en.trans tv1869.symm, show o = v1874 from eo.trans tv1874.symm]; first | (exfalso; omega) | exact ⟨fun _ => by omega, fun _ => by omega, fun _ => by omega⟩)⟩
                                                    · exfalso; omega
                                                  · exfalso; omega
                                              · exfalso; omega
                                          · exfalso; omega
                                      · exfalso; omega
                                    · exfalso; omega
                                  · exfalso; omega
                                · refine g_nop ?_
                                  refine g_bipush (by decide) (fun v1985 kv1985 => ?_)
                                  exact g_iret ⟨_, rfl, rfl, (fun w n o ew en eo hv => by rw [show w = v1864 from ew.trans tv1864.symm, show n = v1869 from en.trans tv1869.symm, show o = v1874 from eo.trans tv1874.symm]; first | (exfalso; omega) | exact ⟨fun _ => by omega, fun _ => by omega, fun _ => by omega⟩)⟩
                          · exfalso; omega
                        · exfalso; omega
                      · refine g_iconst (by decide) (fun v1986 kv1986 => ?_)
                        refine g_goto ?_
                        refine g_istore (l' := [(0, .ref 0), (1, .int a1), (2, .int v1864), (3, .int v1869), (4, .int v1874), (5, .int v1878), (6, .int v1986)]) rfl rfl ?_
                        refine g_iload rfl ?_
                        refine g_if_eq (fun c1987 => ?_) (fun c1987 => ?_)
                        · exfalso; omega
                        · refine g_aload_n rfl ?_
                          refine g_gfr hI sm_0 rfl ?_
                          refine g_aload_n rfl ?_
                          refine g_iload_n rfl ?_
                          refine g_invvi hI sm_0 rfl rfl rfl rfl (s_185 v1869 (by first | with_reducible assumption | omega) H hI hJ) (fun v1990 H1988 r1989 => ?_)
                          obtain ⟨rfl, bv1990⟩ := r1989
                          refine g_baload hI sm_15 rfl (by first | with_reducible assumption | omega) (fun v1991 ev1991 lv1991 uv1991 => ?_)
                          refine g_if_ne (fun c1992 => ?_) (fun c1992 => ?_)
                          · refine g_bipush (by decide) (fun v1993 kv1993 => ?_)
                            exact g_iret ⟨_, rfl, rfl, (fun w n o ew en eo hv => by rw [show w = v1864 from ew.trans tv1864.symm, show n = v1869 from en.trans tv1869.symm, show o = v1874 from eo.trans tv1874.symm]; first | (exfalso; omega) | exact ⟨fun _ => by omega, fun _ => by omega, fun _ => by omega⟩)⟩
                          · refine g_nop ?_
                            refine g_iload rfl ?_
                            refine g_if_eq (fun c1994 => ?_) (fun c1994 => ?_)
                            · refine g_iload_n rfl ?_
                              refine g_bipush (by decide) (fun v1995 kv1995 => ?_)
                              refine g_if2_ne (fun c1996 => ?_) (fun c1996 => ?_)
                              · refine g_iload rfl ?_
                                refine g_if_eq (fun c1997 => ?_) (fun c1997 => ?_)
                                · refine g_iload_n rfl ?_
                                  refine g_iconst (by decide) (fun v1998 kv1998 => ?_)
                                  refine g_if2_ne (fun c1999 => ?_) (fun c1999 => ?_)
                                  · refine g_iload_n rfl ?_
                                    refine g_iconst (by decide) (fun v2000 kv2000 => ?_)
                                    refine g_if2_ne (fun c2001 => ?_) (fun c2001 => ?_)
                                    · refine g_aload_n rfl ?_
                                      refine g_iload_n rfl ?_
                                      refine g_iconst (by decide) (fun v2002 kv2002 => ?_)
                                      refine g_bipush (by decide) (fun v2003 kv2003 => ?_)
                                      refine g_bipush (by decide) (fun v2004 kv2004 => ?_)
                                      refine g_invvi hI sm_0 rfl rfl rfl rfl (s_190 v1864 v2002 v2003 v2004 H hI (JM_n hJ)) (fun v2007 H2005 r2006 => ?_)
                                      obtain ⟨rfl, bv2007⟩ := r2006
                                      refine g_if_eq (fun c2008 => ?_) (fun c2008 => ?_)
                                      · refine g_iload_n rfl ?_
                                        refine g_iconst (by decide) (fun v2009 kv2009 => ?_)
                                        refine g_if2_eq (fun c2010 => ?_) (fun c2010 => ?_)
                                        · refine g_aload_n rfl ?_
                                          refine g_iload_n rfl ?_
                                          refine g_iload rfl ?_
                                          refine g_aload_n rfl ?_
                                          refine g_gfr hI sm_0 rfl ?_
                                          refine g_iload_n rfl ?_
                                          refine g_iaload hI sm_18 rfl (by first | with_reducible assumption | omega) (fun v2011 ev2011 lv2011 uv2011 => ?_)
                                          refine g_invvi hI sm_0 rfl rfl rfl rfl (s_189 v1869 (by first | with_reducible assumption | omega) v1874 (by first | with_reducible assumption | omega) v2011 H hI hJ) (fun v2014 H2012 r2013 => ?_)
                                          obtain ⟨rfl, bv2014⟩ := r2013
                                          refine g_if_eq (fun c2015 => ?_) (fun c2015 => ?_)
                                          · refine g_iload rfl ?_
                                            refine g_if_ne (fun c2016 => ?_) (fun c2016 => ?_)
                                            · exfalso; omega
                                            · refine g_iload_n rfl ?_
                                              refine g_bipush (by decide) (fun v2017 kv2017 => ?_)
                                              refine g_if2_ne (fun c2018 => ?_) (fun c2018 => ?_)
                                              · refine g_iload_n rfl ?_
                                                refine g_bipush (by decide) (fun v2019 kv2019 => ?_)
                                                refine g_if2_ne (fun c2020 => ?_) (fun c2020 => ?_)
                                                · refine g_iconst (by decide) (fun v2021 kv2021 => ?_)
                                                  refine g_nop ?_
                                                  exact g_iret ⟨_, rfl, rfl, (fun w n o ew en eo hv => by rw [show w = v1864 from ew.trans tv1864.symm, show n = v1869 from en.trans tv1869.symm, show o = v1874 from eo.trans tv1874.symm]; first | (exfalso; omega) | exact ⟨fun _ => by omega, fun _ => by omega, fun _ => by omega⟩)⟩
                                                · exfalso; omega
                                              · exfalso; omega
                                          · refine g_bipush (by decide) (fun v2022 kv2022 => ?_)
                                            exact g_iret ⟨_, rfl, rfl, (fun w n o ew en eo hv => by rw [show w = v1864 from ew.trans tv1864.symm, show n = v1869 from en.trans tv1869.symm, show o = v1874 from eo.trans tv1874.symm]; first | (exfalso; omega) | exact ⟨fun _ => by omega, fun _ => by omega, fun _ => by omega⟩)⟩
                                        · refine g_iload_n rfl ?_
                                          refine g_bipush (by decide) (fun v2023 kv2023 => ?_)
                                          refine g_if2_ne (fun c2024 => ?_) (fun c2024 => ?_)
                                          · refine g_iload rfl ?_
                                            refine g_if_ne (fun c2025 => ?_) (fun c2025 => ?_)
                                            · exfalso; omega
                                            · refine g_iload_n rfl ?_
                                              refine g_bipush (by decide) (fun v2026 kv2026 => ?_)
                                              refine g_if2_ne (fun c2027 => ?_) (fun c2027 => ?_)
                                              · refine g_iload_n rfl ?_
                                                refine g_bipush (by decide) (fun v2028 kv2028 => ?_)
                                                refine g_if2_ne (fun c2029 => ?_) (fun c2029 => ?_)
                                                · refine g_iconst (by decide) (fun v2030 kv2030 => ?_)
                                                  refine g_nop ?_
                                                  exact g_iret ⟨_, rfl, rfl, (fun w n o ew en eo hv => by rw [show w = v1864 from ew.trans tv1864.symm, show n = v1869 from en.trans tv1869.symm, show o = v1874 from eo.trans tv1874.symm]; first | (exfalso; omega) | exact ⟨fun _ => by omega, fun _ => by omega, fun _ => by omega⟩)⟩
                                                · exfalso; omega
                                              · refine g_nop ?_
                                                refine g_aload_n rfl ?_
                                                refine g_iload_n rfl ?_
                                                refine g_invvi hI sm_0 rfl rfl rfl rfl (s_187 v1869 H hI hJ) (fun v2033 H2031 r2032 => ?_)
                                                obtain ⟨rfl, bv2033⟩ := r2032
                                                refine g_if_eq (fun c2034 => ?_) (fun c2034 => ?_)
                                                · refine g_iload_n rfl ?_
                                                  refine g_bipush (by decide) (fun v2035 kv2035 => ?_)
                                                  refine g_if2_ne (fun c2036 => ?_) (fun c2036 => ?_)
                                                  · refine g_iconst (by decide) (fun v2037 kv2037 => ?_)
                                                    refine g_nop ?_
                                                    exact g_iret ⟨_, rfl, rfl, (fun w n o ew en eo hv => by rw [show w = v1864 from ew.trans tv1864.symm, show n = v1869 from en.trans tv1869.symm, show o = v1874 from eo.trans tv1874.symm]; first | (exfalso; omega) | exact ⟨fun _ => by omega, fun _ => by omega, fun _ => by omega⟩)⟩
                                                  · exfalso; omega
                                                · refine g_bipush (by decide) (fun v2038 kv2038 => ?_)
                                                  exact g_iret ⟨_, rfl, rfl, (fun w n o ew en eo hv => by rw [show w = v1864 from ew.trans tv1864.symm, show n = v1869 from en.trans tv1869.symm, show o = v1874 from eo.trans tv1874.symm]; first | (exfalso; omega) | exact ⟨fun _ => by omega, fun _ => by omega, fun _ => by omega⟩)⟩
                                          · refine g_nop ?_
                                            refine g_aload_n rfl ?_
                                            refine g_iload_n rfl ?_
                                            refine g_iload rfl ?_
                                            refine g_aload_n rfl ?_
                                            refine g_gfr hI sm_0 rfl ?_
                                            refine g_iload_n rfl ?_
                                            refine g_iaload hI sm_18 rfl (by first | with_reducible assumption | omega) (fun v2039 ev2039 lv2039 uv2039 => ?_)
                                            refine g_invvi hI sm_0 rfl rfl rfl rfl (s_189 v1869 (by first | with_reducible assumption | omega) v1874 (by first | with_reducible assumption | omega) v2039 H hI hJ) (fun v2042 H2040 r2041 => ?_)
                                            obtain ⟨rfl, bv2042⟩ := r2041
                                            refine g_if_eq (fun c2043 => ?_) (fun c2043 => ?_)
                                            · refine g_iload rfl ?_
                                              refine g_if_ne (fun c2044 => ?_) (fun c2044 => ?_)
                                              · exfalso; omega
                                              · refine g_iload_n rfl ?_
                                                refine g_bipush (by decide) (fun v2045 kv2045 => ?_)
                                                refine g_if2_ne (fun c2046 => ?_) (fun c2046 => ?_)
                                                · refine g_iload_n rfl ?_
                                                  refine g_bipush (by decide) (fun v2047 kv2047 => ?_)
                                                  refine g_if2_ne (fun c2048 => ?_) (fun c2048 => ?_)
                                                  · refine g_iconst (by decide) (fun v2049 kv2049 => ?_)
                                                    refine g_nop ?_
                                                    exact g_iret ⟨_, rfl, rfl, (fun w n o ew en eo hv => by rw [show w = v1864 from ew.trans tv1864.symm, show n = v1869 from en.trans tv1869.symm, show o = v1874 from eo.trans tv1874.symm]; first | (exfalso; omega) | exact ⟨fun _ => by omega, fun _ => by omega, fun _ => by omega⟩)⟩
                                                  · exfalso; omega
                                                · exfalso; omega
                                            · refine g_bipush (by decide) (fun v2050 kv2050 => ?_)
                                              exact g_iret ⟨_, rfl, rfl, (fun w n o ew en eo hv => by rw [show w = v1864 from ew.trans tv1864.symm, show n = v1869 from en.trans tv1869.symm, show o = v1874 from eo.trans tv1874.symm]; first | (exfalso; omega) | exact ⟨fun _ => by omega, fun _ => by omega, fun _ => by omega⟩)⟩
                                      · refine g_aload_n rfl ?_
                                        refine g_gfr hI sm_0 rfl ?_
                                        refine g_iload_n rfl ?_
                                        refine g_iaload hI sm_9 rfl (by first | with_reducible assumption | omega) (fun v2051 ev2051 lv2051 uv2051 => ?_)
                                        have qv2051 := JM_in hJ (by first | with_reducible assumption | omega) ev2051
                                        have yv2051 : v2051.toInt = (aZ H 9 v1869.toInt.toNat).toInt := by rw [ev2051]
                                        refine g_bipush (by decide) (fun v2052 kv2052 => ?_)
                                        refine g_if2_eq (fun c2053 => ?_) (fun c2053 => ?_)
                                        · refine g_iload_n rfl ?_
                                          refine g_iconst (by decide) (fun v2054 kv2054 => ?_)
                                          refine g_if2_eq (fun c2055 => ?_) (fun c2055 => ?_)
                                          · refine g_aload_n rfl ?_
                                            refine g_iload_n rfl ?_
                                            refine g_iload rfl ?_
                                            refine g_aload_n rfl ?_
                                            refine g_gfr hI sm_0 rfl ?_
                                            refine g_iload_n rfl ?_
                                            refine g_iaload hI sm_18 rfl (by first | with_reducible assumption | omega) (fun v2056 ev2056 lv2056 uv2056 => ?_)
                                            refine g_invvi hI sm_0 rfl rfl rfl rfl (s_189 v1869 (by first | with_reducible assumption | omega) v1874 (by first | with_reducible assumption | omega) v2056 H hI hJ) (fun v2059 H2057 r2058 => ?_)
                                            obtain ⟨rfl, bv2059⟩ := r2058
                                            refine g_if_eq (fun c2060 => ?_) (fun c2060 => ?_)
                                            · refine g_iload rfl ?_
                                              refine g_if_ne (fun c2061 => ?_) (fun c2061 => ?_)
                                              · exfalso; omega
                                              · refine g_iload_n rfl ?_
                                                refine g_bipush (by decide) (fun v2062 kv2062 => ?_)
                                                refine g_if2_ne (fun c2063 => ?_) (fun c2063 => ?_)
                                                · refine g_iload_n rfl ?_
                                                  refine g_bipush (by decide) (fun v2064 kv2064 => ?_)
                                                  refine g_if2_ne (fun c2065 => ?_) (fun c2065 => ?_)
                                                  · refine g_iconst (by decide) (fun v2066 kv2066 => ?_)
                                                    refine g_nop ?_
                                                    exact g_iret ⟨_, rfl, rfl, (fun w n o ew en eo hv => by rw [show w = v1864 from ew.trans tv1864.symm, show n = v1869 from en.trans tv1869.symm, show o = v1874 from eo.trans tv1874.symm]; first | (exfalso; omega) | exact ⟨fun _ => by omega, fun _ => by omega, fun _ => by omega⟩)⟩
                                                  · exfalso; omega
                                                · exfalso; omega
                                            · refine g_bipush (by decide) (fun v2067 kv2067 => ?_)
                                              exact g_iret ⟨_, rfl, rfl, (fun w n o ew en eo hv => by rw [show w = v1864 from ew.trans tv1864.symm, show n = v1869 from en.trans tv1869.symm, show o = v1874 from eo.trans tv1874.symm]; first | (exfalso; omega) | exact ⟨fun _ => by omega, fun _ => by omega, fun _ => by omega⟩)⟩
                                          · refine g_iload_n rfl ?_
                                            refine g_bipush (by decide) (fun v2068 kv2068 => ?_)
                                            refine g_if2_ne (fun c2069 => ?_) (fun c2069 => ?_)
                                            · refine g_iload rfl ?_
                                              refine g_if_ne (fun c2070 => ?_) (fun c2070 => ?_)
                                              · exfalso; omega
                                              · refine g_iload_n rfl ?_
                                                refine g_bipush (by decide) (fun v2071 kv2071 => ?_)
                                                refine g_if2_ne (fun c2072 => ?_) (fun c2072 => ?_)
                                                · refine g_iload_n rfl ?_
                                                  refine g_bipush (by decide) (fun v2073 kv2073 => ?_)
                                                  refine g_if2_ne (fun c2074 => ?_) (fun c2074 => ?_)
                                                  · refine g_iconst (by decide) (fun v2075 kv2075 => ?_)
                                                    refine g_nop ?_
                                                    exact g_iret ⟨_, rfl, rfl, (fun w n o ew en eo hv => by rw [show w = v1864 from ew.trans tv1864.symm, show n = v1869 from en.trans tv1869.symm, show o = v1874 from eo.trans tv1874.symm]; first | (exfalso; omega) | exact ⟨fun _ => by omega, fun _ => by omega, fun _ => by omega⟩)⟩
                                                  · exfalso; omega
                                                · refine g_nop ?_
                                                  refine g_aload_n rfl ?_
                                                  refine g_iload_n rfl ?_
                                                  refine g_invvi hI sm_0 rfl rfl rfl rfl (s_187 v1869 H hI hJ) (fun v2078 H2076 r2077 => ?_)
                                                  obtain ⟨rfl, bv2078⟩ := r2077
                                                  refine g_if_eq (fun c2079 => ?_) (fun c2079 => ?_)
                                                  · refine g_iload_n rfl ?_
                                                    refine g_bipush (by decide) (fun v2080 kv2080 => ?_)
                                                    refine g_if2_ne (fun c2081 => ?_) (fun c2081 => ?_)
                                                    · refine g_iconst (by decide) (fun v2082 kv2082 => ?_)
                                                      refine g_nop ?_
                                                      exact g_iret ⟨_, rfl, rfl, (fun w n o ew en eo hv => by rw [show w = v1864 from ew.trans tv1864.symm, show n = v1869 from en.trans tv1869.symm, show o = v1874 from eo.trans tv1874.symm]; first | (exfalso; omega) | exact ⟨fun _ => by omega, fun _ => by omega, fun _ => by omega⟩)⟩
                                                    · exfalso; omega
                                                  · refine g_bipush (by decide) (fun v2083 kv2083 => ?_)
                                                    exact g_iret ⟨_, rfl, rfl, (fun w n o ew en eo hv => by rw [show w = v1864 from ew.trans tv1864.symm, show n = v1869 from en.trans tv1869.symm, show o = v1874 from eo.trans tv1874.symm]; first | (exfalso; omega) | exact ⟨fun _ => by omega, fun _ => by omega, fun _ => by omega⟩)⟩
                                            · refine g_nop ?_
                                              refine g_aload_n rfl ?_
                                              refine g_iload_n rfl ?_
                                              refine g_iload rfl ?_
                                              refine g_aload_n rfl ?_
                                              refine g_gfr hI sm_0 rfl ?_
                                              refine g_iload_n rfl ?_
                                              refine g_iaload hI sm_18 rfl (by first | with_reducible assumption | omega) (fun v2084 ev2084 lv2084 uv2084 => ?_)
                                              refine g_invvi hI sm_0 rfl rfl rfl rfl (s_189 v1869 (by first | with_reducible assumption | omega) v1874 (by first | with_reducible assumption | omega) v2084 H hI hJ) (fun v2087 H2085 r2086 => ?_)
                                              obtain ⟨rfl, bv2087⟩ := r2086
                                              refine g_if_eq (fun c2088 => ?_) (fun c2088 => ?_)
                                              · refine g_iload rfl ?_
                                                refine g_if_ne (fun c2089 => ?_) (fun c2089 => ?_)
                                                · exfalso; omega
                                                · refine g_iload_n rfl ?_
                                                  refine g_bipush (by decide) (fun v2090 kv2090 => ?_)
                                                  refine g_if2_ne (fun c2091 => ?_) (fun c2091 => ?_)
                                                  · refine g_iload_n rfl ?_
                                                    refine g_bipush (by decide) (fun v2092 kv2092 => ?_)
                                                    refine g_if2_ne (fun c2093 => ?_) (fun c2093 => ?_)
                                                    · refine g_iconst (by decide) (fun v2094 kv2094 => ?_)
                                                      refine g_nop ?_
                                                      exact g_iret ⟨_, rfl, rfl, (fun w n o ew en eo hv => by rw [show w = v1864 from ew.trans tv1864.symm, show n = v1869 from en.trans tv1869.symm, show o = v1874 from eo.trans tv1874.symm]; first | (exfalso; omega) | exact ⟨fun _ => by omega, fun _ => by omega, fun _ => by omega⟩)⟩
                                                    · exfalso; omega
                                                  · exfalso; omega
                                              · refine g_bipush (by decide) (fun v2095 kv2095 => ?_)
                                                exact g_iret ⟨_, rfl, rfl, (fun w n o ew en eo hv => by rw [show w = v1864 from ew.trans tv1864.symm, show n = v1869 from en.trans tv1869.symm, show o = v1874 from eo.trans tv1874.symm]; first | (exfalso; omega) | exact ⟨fun _ => by omega, fun _ => by omega, fun _ => by omega⟩)⟩
                                        · refine g_bipush (by decide) (fun v2096 kv2096 => ?_)
                                          exact g_iret ⟨_, rfl, rfl, (fun w n o ew en eo hv => by rw [show w = v1864 from ew.trans tv1864.symm, show n = v1869 from en.trans tv1869.symm, show o = v1874 from eo.trans tv1874.symm]; first | (exfalso; omega) | exact ⟨fun _ => by omega, fun _ => by omega, fun _ => by omega⟩)⟩
                                    · refine g_aload_n rfl ?_
                                      refine g_gfr hI sm_0 rfl ?_
                                      refine g_iload_n rfl ?_
                                      refine g_baload hI sm_13 rfl (by first | with_reducible assumption | omega) (fun v2097 ev2097 lv2097 uv2097 => ?_)
                                      refine g_if_ne (fun c2098 => ?_) (fun c2098 => ?_)
                                      · refine g_aload_n rfl ?_
                                        refine g_iload_n rfl ?_
                                        refine g_iconst (by decide) (fun v2099 kv2099 => ?_)
                                        refine g_bipush (by decide) (fun v2100 kv2100 => ?_)
                                        refine g_bipush (by decide) (fun v2101 kv2101 => ?_)
                                        refine g_invvi hI sm_0 rfl rfl rfl rfl (s_190 v1864 v2099 v2100 v2101 H hI (JM_n hJ)) (fun v2104 H2102 r2103 => ?_)
                                        obtain ⟨rfl, bv2104⟩ := r2103
                                        refine g_if_eq (fun c2105 => ?_) (fun c2105 => ?_)
                                        · refine g_iload_n rfl ?_
                                          refine g_iconst (by decide) (fun v2106 kv2106 => ?_)
                                          refine g_if2_eq (fun c2107 => ?_) (fun c2107 => ?_)
                                          · exfalso; omega
                                          · refine g_iload_n rfl ?_
                                            refine g_bipush (by decide) (fun v2108 kv2108 => ?_)
                                            refine g_if2_ne (fun c2109 => ?_) (fun c2109 => ?_)
                                            · refine g_iload rfl ?_
                                              refine g_if_ne (fun c2110 => ?_) (fun c2110 => ?_)
                                              · exfalso; omega
                                              · refine g_iload_n rfl ?_
                                                refine g_bipush (by decide) (fun v2111 kv2111 => ?_)
                                                refine g_if2_ne (fun c2112 => ?_) (fun c2112 => ?_)
                                                · refine g_iload_n rfl ?_
                                                  refine g_bipush (by decide) (fun v2113 kv2113 => ?_)
                                                  refine g_if2_ne (fun c2114 => ?_) (fun c2114 => ?_)
                                                  · refine g_iconst (by decide) (fun v2115 kv2115 => ?_)
                                                    refine g_nop ?_
                                                    exact g_iret ⟨_, rfl, rfl, (fun w n o ew en eo hv => by rw [show w = v1864 from ew.trans tv1864.symm, show n = v1869 from en.trans tv1869.symm, show o = v1874 from eo.trans tv1874.symm]; first | (exfalso; omega) | exact ⟨fun _ => by omega, fun _ => by omega, fun _ => by omega⟩)⟩
                                                  · exfalso; omega
                                                · exfalso; omega
                                            · exfalso; omega
                                        · refine g_aload_n rfl ?_
                                          refine g_gfr hI sm_0 rfl ?_
                                          refine g_iload_n rfl ?_
                                          refine g_iaload hI sm_9 rfl (by first | with_reducible assumption | omega) (fun v2116 ev2116 lv2116 uv2116 => ?_)
                                          have qv2116 := JM_in hJ (by first | with_reducible assumption | omega) ev2116
                                          have yv2116 : v2116.toInt = (aZ H 9 v1869.toInt.toNat).toInt := by rw [ev2116]
                                          refine g_bipush (by decide) (fun v2117 kv2117 => ?_)
                                          refine g_if2_eq (fun c2118 => ?_) (fun c2118 => ?_)
                                          · refine g_iload_n rfl ?_
                                            refine g_iconst (by decide) (fun v2119 kv2119 => ?_)
                                            refine g_if2_eq (fun c2120 => ?_) (fun c2120 => ?_)
                                            · exfalso; omega
                                            · refine g_iload_n rfl ?_
                                              refine g_bipush (by decide) (fun v2121 kv2121 => ?_)
                                              refine g_if2_ne (fun c2122 => ?_) (fun c2122 => ?_)
                                              · refine g_iload rfl ?_
                                                refine g_if_ne (fun c2123 => ?_) (fun c2123 => ?_)
                                                · exfalso; omega
                                                · refine g_iload_n rfl ?_
                                                  refine g_bipush (by decide) (fun v2124 kv2124 => ?_)
                                                  refine g_if2_ne (fun c2125 => ?_) (fun c2125 => ?_)
                                                  · refine g_iload_n rfl ?_
                                                    refine g_bipush (by decide) (fun v2126 kv2126 => ?_)
                                                    refine g_if2_ne (fun c2127 => ?_) (fun c2127 => ?_)
                                                    · refine g_iconst (by decide) (fun v2128 kv2128 => ?_)
                                                      refine g_nop ?_
                                                      exact g_iret ⟨_, rfl, rfl, (fun w n o ew en eo hv => by rw [show w = v1864 from ew.trans tv1864.symm, show n = v1869 from en.trans tv1869.symm, show o = v1874 from eo.trans tv1874.symm]; first | (exfalso; omega) | exact ⟨fun _ => by omega, fun _ => by omega, fun _ => by omega⟩)⟩
                                                    · exfalso; omega
                                                  · exfalso; omega
                                              · exfalso; omega
                                          · refine g_bipush (by decide) (fun v2129 kv2129 => ?_)
                                            exact g_iret ⟨_, rfl, rfl, (fun w n o ew en eo hv => by rw [show w = v1864 from ew.trans tv1864.symm, show n = v1869 from en.trans tv1869.symm, show o = v1874 from eo.trans tv1874.symm]; first | (exfalso; omega) | exact ⟨fun _ => by omega, fun _ => by omega, fun _ => by omega⟩)⟩
                                      · refine g_nop ?_
                                        refine g_bipush (by decide) (fun v2130 kv2130 => ?_)
                                        exact g_iret ⟨_, rfl, rfl, (fun w n o ew en eo hv => by rw [show w = v1864 from ew.trans tv1864.symm, show n = v1869 from en.trans tv1869.symm, show o = v1874 from eo.trans tv1874.symm]; first | (exfalso; omega) | exact ⟨fun _ => by omega, fun _ => by omega, fun _ => by omega⟩)⟩
                                  · refine g_aload_n rfl ?_
                                    refine g_gfr hI sm_0 rfl ?_
                                    refine g_iload_n rfl ?_
                                    refine g_baload hI sm_13 rfl (by first | with_reducible assumption | omega) (fun v2131 ev2131 lv2131 uv2131 => ?_)
                                    refine g_if_ne (fun c2132 => ?_) (fun c2132 => ?_)
                                    · refine g_bipush (by decide) (fun v2133 kv2133 => ?_)
                                      exact g_iret ⟨_, rfl, rfl, (fun w n o ew en eo hv => by rw [show w = v1864 from ew.trans tv1864.symm, show n = v1869 from en.trans tv1869.symm, show o = v1874 from eo.trans tv1874.symm]; first | (exfalso; omega) | exact ⟨fun _ => by omega, fun _ => by omega, fun _ => by omega⟩)⟩
                                    · refine g_aload_n rfl ?_
                                      refine g_gfr hI sm_0 rfl ?_
                                      refine g_iload_n rfl ?_
                                      refine g_iaload hI sm_8 rfl (by first | with_reducible assumption | omega) (fun v2134 ev2134 lv2134 uv2134 => ?_)
                                      have yv2134 : v2134.toInt = (aZ H 8 v1869.toInt.toNat).toInt := by rw [ev2134]
                                      refine g_if_eq (fun c2135 => ?_) (fun c2135 => ?_)
                                      · refine g_bipush (by decide) (fun v2136 kv2136 => ?_)
                                        exact g_iret ⟨_, rfl, rfl, (fun w n o ew en eo hv => by rw [show w = v1864 from ew.trans tv1864.symm, show n = v1869 from en.trans tv1869.symm, show o = v1874 from eo.trans tv1874.symm]; first | (exfalso; omega) | exact ⟨fun _ => by omega, fun _ => by omega, fun _ => by omega⟩)⟩
                                      · refine g_nop ?_
                                        refine g_iload_n rfl ?_
                                        refine g_iconst (by decide) (fun v2137 kv2137 => ?_)
                                        refine g_if2_ne (fun c2138 => ?_) (fun c2138 => ?_)
                                        · refine g_aload_n rfl ?_
                                          refine g_iload_n rfl ?_
                                          refine g_iconst (by decide) (fun v2139 kv2139 => ?_)
                                          refine g_bipush (by decide) (fun v2140 kv2140 => ?_)
                                          refine g_bipush (by decide) (fun v2141 kv2141 => ?_)
                                          refine g_invvi hI sm_0 rfl rfl rfl rfl (s_190 v1864 v2139 v2140 v2141 H hI (JM_n hJ)) (fun v2144 H2142 r2143 => ?_)
                                          obtain ⟨rfl, bv2144⟩ := r2143
                                          refine g_if_eq (fun c2145 => ?_) (fun c2145 => ?_)
                                          · refine g_iload_n rfl ?_
                                            refine g_iconst (by decide) (fun v2146 kv2146 => ?_)
                                            refine g_if2_eq (fun c2147 => ?_) (fun c2147 => ?_)
                                            · exfalso; omega
                                            · refine g_iload_n rfl ?_
                                              refine g_bipush (by decide) (fun v2148 kv2148 => ?_)
                                              refine g_if2_ne (fun c2149 => ?_) (fun c2149 => ?_)
                                              · refine g_iload rfl ?_
                                                refine g_if_ne (fun c2150 => ?_) (fun c2150 => ?_)
                                                · exfalso; omega
                                                · refine g_iload_n rfl ?_
                                                  refine g_bipush (by decide) (fun v2151 kv2151 => ?_)
                                                  refine g_if2_ne (fun c2152 => ?_) (fun c2152 => ?_)
                                                  · refine g_iload_n rfl ?_
                                                    refine g_bipush (by decide) (fun v2153 kv2153 => ?_)
                                                    refine g_if2_ne (fun c2154 => ?_) (fun c2154 => ?_)
                                                    · refine g_iconst (by decide) (fun v2155 kv2155 => ?_)
                                                      refine g_nop ?_
                                                      exact g_iret ⟨_, rfl, rfl, (fun w n o ew en eo hv => by rw [show w = v1864 from ew.trans tv1864.symm, show n = v1869 from en.trans tv1869.symm, show o = v1874 from eo.trans tv1874.symm]; first | (exfalso; omega) | exact ⟨fun _ => by omega, fun _ => by omega, fun _ => by omega⟩)⟩
                                                    · exfalso; omega
                                                  · exfalso; omega
                                              · exfalso; omega
                                          · refine g_aload_n rfl ?_
                                            refine g_gfr hI sm_0 rfl ?_
                                            refine g_iload_n rfl ?_
                                            refine g_iaload hI sm_9 rfl (by first | with_reducible assumption | omega) (fun v2156 ev2156 lv2156 uv2156 => ?_)
                                            have qv2156 := JM_in hJ (by first | with_reducible assumption | omega) ev2156
                                            have yv2156 : v2156.toInt = (aZ H 9 v1869.toInt.toNat).toInt := by rw [ev2156]
                                            refine g_bipush (by decide) (fun v2157 kv2157 => ?_)
                                            refine g_if2_eq (fun c2158 => ?_) (fun c2158 => ?_)
                                            · refine g_iload_n rfl ?_
                                              refine g_iconst (by decide) (fun v2159 kv2159 => ?_)
                                              refine g_if2_eq (fun c2160 => ?_) (fun c2160 => ?_)
                                              · exfalso; omega
                                              · refine g_iload_n rfl ?_
                                                refine g_bipush (by decide) (fun v2161 kv2161 => ?_)
                                                refine g_if2_ne (fun c2162 => ?_) (fun c2162 => ?_)
                                                · refine g_iload rfl ?_
                                                  refine g_if_ne (fun c2163 => ?_) (fun c2163 => ?_)
                                                  · exfalso; omega
                                                  · refine g_iload_n rfl ?_
                                                    refine g_bipush (by decide) (fun v2164 kv2164 => ?_)
                                                    refine g_if2_ne (fun c2165 => ?_) (fun c2165 => ?_)
                                                    · refine g_iload_n rfl ?_
                                                      refine g_bipush (by decide) (fun v2166 kv2166 => ?_)
                                                      refine g_if2_ne (fun c2167 => ?_) (fun c2167 => ?_)
                                                      · refine g_iconst (by decide) (fun v2168 kv2168 => ?_)
                                                        refine g_nop ?_
                                                        exact g_iret ⟨_, rfl, rfl, (fun w n o ew en eo hv => by rw [show w = v1864 from ew.trans tv1864.symm, show n = v1869 from en.trans tv1869.symm, show o = v1874 from eo.trans tv1874.symm]; first | (exfalso; omega) | exact ⟨fun _ => by omega, fun _ => by omega, fun _ => by omega⟩)⟩
                                                      · exfalso; omega
                                                    · exfalso; omega
                                                · exfalso; omega
                                            · refine g_bipush (by decide) (fun v2169 kv2169 => ?_)
                                              exact g_iret ⟨_, rfl, rfl, (fun w n o ew en eo hv => by rw [show w = v1864 from ew.trans tv1864.symm, show n = v1869 from en.trans tv1869.symm, show o = v1874 from eo.trans tv1874.symm]; first | (exfalso; omega) | exact ⟨fun _ => by omega, fun _ => by omega, fun _ => by omega⟩)⟩
                                        · exfalso; omega
                                · exfalso; omega
                              · exfalso; omega
                            · exfalso; omega
                  · refine g_aload_n rfl ?_
                    refine g_gfr hI sm_0 rfl ?_
                    refine g_iload_n rfl ?_
                    refine g_iaload hI sm_9 rfl (by first | with_reducible assumption | omega) (fun v2170 ev2170 lv2170 uv2170 => ?_)
                    have qv2170 := JM_in hJ (by first | with_reducible assumption | omega) ev2170
                    have yv2170 : v2170.toInt = (aZ H 9 v1869.toInt.toNat).toInt := by rw [ev2170]
                    refine g_bipush (by decide) (fun v2171 kv2171 => ?_)
                    refine g_if2_ne (fun c2172 => ?_) (fun c2172 => ?_)
                    · refine g_iload_n rfl ?_
                      refine g_iconst (by decide) (fun v2173 kv2173 => ?_)
                      refine g_if2_lt (fun c2174 => ?_) (fun c2174 => ?_)
                      · exfalso; omega
                      · refine g_iload_n rfl ?_
                        refine g_bipush (by decide) (fun v2175 kv2175 => ?_)
                        refine g_if2_gt (fun c2176 => ?_) (fun c2176 => ?_)
                        · exfalso; omega
                        · refine g_iconst (by decide) (fun v2177 kv2177 => ?_)
                          refine g_goto ?_
                          refine g_istore (l' := [(0, .ref 0), (1, .int a1), (2, .int v1864), (3, .int v1869), (4, .int v1874), (5, .int v1878), (6, .int v2177)]) rfl rfl ?_
                          refine g_iload rfl ?_
                          refine g_if_eq (fun c2178 => ?_) (fun c2178 => ?_)
                          · exfalso; omega
                          · refine g_aload_n rfl ?_
                            refine g_gfr hI sm_0 rfl ?_
                            refine g_aload_n rfl ?_
                            refine g_iload_n rfl ?_
                            refine g_invvi hI sm_0 rfl rfl rfl rfl (s_185 v1869 (by first | with_reducible assumption | omega) H hI hJ) (fun v2181 H2179 r2180 => ?_)
                            obtain ⟨rfl, bv2181⟩ := r2180
                            refine g_baload hI sm_15 rfl (by first | with_reducible assumption | omega) (fun v2182 ev2182 lv2182 uv2182 => ?_)
                            refine g_if_ne (fun c2183 => ?_) (fun c2183 => ?_)
                            · refine g_bipush (by decide) (fun v2184 kv2184 => ?_)
                              exact g_iret ⟨_, rfl, rfl, (fun w n o ew en eo hv => by rw [show w = v1864 from ew.trans tv1864.symm, show n = v1869 from en.trans tv1869.symm, show o = v1874 from eo.trans tv1874.symm]; first | (exfalso; omega) | exact ⟨fun _ => by omega, fun _ => by omega, fun _ => by omega⟩)⟩
                            · refine g_nop ?_
                              refine g_iload rfl ?_
                              refine g_if_eq (fun c2185 => ?_) (fun c2185 => ?_)
                              · refine g_iload_n rfl ?_
                                refine g_bipush (by decide) (fun v2186 kv2186 => ?_)
                                refine g_if2_ne (fun c2187 => ?_) (fun c2187 => ?_)
                                · refine g_iload rfl ?_
                                  refine g_if_eq (fun c2188 => ?_) (fun c2188 => ?_)
                                  · refine g_iload_n rfl ?_
                                    refine g_iconst (by decide) (fun v2189 kv2189 => ?_)
                                    refine g_if2_ne (fun c2190 => ?_) (fun c2190 => ?_)
                                    · refine g_iload_n rfl ?_
                                      refine g_iconst (by decide) (fun v2191 kv2191 => ?_)
                                      refine g_if2_ne (fun c2192 => ?_) (fun c2192 => ?_)
                                      · refine g_aload_n rfl ?_
                                        refine g_iload_n rfl ?_
                                        refine g_iconst (by decide) (fun v2193 kv2193 => ?_)
                                        refine g_bipush (by decide) (fun v2194 kv2194 => ?_)
                                        refine g_bipush (by decide) (fun v2195 kv2195 => ?_)
                                        refine g_invvi hI sm_0 rfl rfl rfl rfl (s_190 v1864 v2193 v2194 v2195 H hI (JM_n hJ)) (fun v2198 H2196 r2197 => ?_)
                                        obtain ⟨rfl, bv2198⟩ := r2197
                                        refine g_if_eq (fun c2199 => ?_) (fun c2199 => ?_)
                                        · refine g_iload_n rfl ?_
                                          refine g_iconst (by decide) (fun v2200 kv2200 => ?_)
                                          refine g_if2_eq (fun c2201 => ?_) (fun c2201 => ?_)
                                          · exfalso; omega
                                          · refine g_iload_n rfl ?_
                                            refine g_bipush (by decide) (fun v2202 kv2202 => ?_)
                                            refine g_if2_ne (fun c2203 => ?_) (fun c2203 => ?_)
                                            · refine g_iload rfl ?_
                                              refine g_if_ne (fun c2204 => ?_) (fun c2204 => ?_)
                                              · exfalso; omega
                                              · refine g_iload_n rfl ?_
                                                refine g_bipush (by decide) (fun v2205 kv2205 => ?_)
                                                refine g_if2_ne (fun c2206 => ?_) (fun c2206 => ?_)
                                                · refine g_iload_n rfl ?_
                                                  refine g_bipush (by decide) (fun v2207 kv2207 => ?_)
                                                  refine g_if2_ne (fun c2208 => ?_) (fun c2208 => ?_)
                                                  · refine g_iconst (by decide) (fun v2209 kv2209 => ?_)
                                                    refine g_nop ?_
                                                    exact g_iret ⟨_, rfl, rfl, (fun w n o ew en eo hv => by rw [show w = v1864 from ew.trans tv1864.symm, show n = v1869 from en.trans tv1869.symm, show o = v1874 from eo.trans tv1874.symm]; first | (exfalso; omega) | exact ⟨fun _ => by omega, fun _ => by omega, fun _ => by omega⟩)⟩
                                                  · exfalso; omega
                                                · exfalso; omega
                                            · exfalso; omega
                                        · refine g_aload_n rfl ?_
                                          refine g_gfr hI sm_0 rfl ?_
                                          refine g_iload_n rfl ?_
                                          refine g_ialoadk hI sm_9 rfl (by first | with_reducible assumption | omega) ev2170 ?_
                                          refine g_bipush (by decide) (fun v2210 kv2210 => ?_)
                                          refine g_if2_eq (fun c2211 => ?_) (fun c2211 => ?_)
                                          · exfalso; omega
                                          · refine g_bipush (by decide) (fun v2212 kv2212 => ?_)
                                            exact g_iret ⟨_, rfl, rfl, (fun w n o ew en eo hv => by rw [show w = v1864 from ew.trans tv1864.symm, show n = v1869 from en.trans tv1869.symm, show o = v1874 from eo.trans tv1874.symm]; first | (exfalso; omega) | exact ⟨fun _ => by omega, fun _ => by omega, fun _ => by omega⟩)⟩
                                      · exfalso; omega
                                    · exfalso; omega
                                  · exfalso; omega
                                · exfalso; omega
                              · exfalso; omega
                    · refine g_nop ?_
                      refine g_iconst (by decide) (fun v2213 kv2213 => ?_)
                      exact g_iret ⟨_, rfl, rfl, (fun w n o ew en eo hv => by rw [show w = v1864 from ew.trans tv1864.symm, show n = v1869 from en.trans tv1869.symm, show o = v1874 from eo.trans tv1874.symm]; first | (exfalso; omega) | exact ⟨fun _ => by omega, fun _ => by omega, fun _ => by omega⟩)⟩
                · exfalso; omega
              · exfalso; omega
            · exfalso; omega
        · exfalso; omega
    · refine g_aload_n rfl ?_
      refine g_gfr hI sm_0 rfl ?_
      refine g_iload_n rfl ?_
      refine g_baload hI sm_7 rfl (by first | with_reducible assumption | omega) (fun v2214 ev2214 lv2214 uv2214 => ?_)
      have yv2214 : v2214.toInt = (aZ H 7 v1869.toInt.toNat).toInt := by rw [ev2214]
      refine g_if_eq (fun c2215 => ?_) (fun c2215 => ?_)
      · refine g_iconst (by decide) (fun v2216 kv2216 => ?_)
        refine g_nop ?_
        exact g_iret ⟨_, rfl, rfl, (fun w n o ew en eo hv => by rw [show w = v1864 from ew.trans tv1864.symm, show n = v1869 from en.trans tv1869.symm, show o = v1874 from eo.trans tv1874.symm]; first | (exfalso; omega) | exact ⟨fun _ => by omega, fun _ => by omega, fun _ => by omega⟩)⟩
      · refine g_iconst (by decide) (fun v2217 kv2217 => ?_)
        refine g_goto ?_
        exact g_iret ⟨_, rfl, rfl, (fun w n o ew en eo hv => by rw [show w = v1864 from ew.trans tv1864.symm, show n = v1869 from en.trans tv1869.symm, show o = v1874 from eo.trans tv1874.symm]; first | (exfalso; omega) | exact ⟨fun _ => by omega, fun _ => by omega, fun _ => by omega⟩)⟩
  · refine g_iconst (by decide) (fun v2218 kv2218 => ?_)
    refine g_goto ?_
    refine g_istore (l' := [(0, .ref 0), (1, .int a1), (2, .int v1864), (3, .int v1869), (4, .int v1874), (5, .int v2218)]) rfl rfl ?_
    refine g_iload_n rfl ?_
    refine g_if_ne (fun c2219 => ?_) (fun c2219 => ?_)
    · refine g_aload_n rfl ?_
      refine g_gfr hI sm_0 rfl ?_
      refine g_iload_n rfl ?_
      refine g_baload hI sm_7 rfl (by first | with_reducible assumption | omega) (fun v2220 ev2220 lv2220 uv2220 => ?_)
      have yv2220 : v2220.toInt = (aZ H 7 v1869.toInt.toNat).toInt := by rw [ev2220]
      refine g_if_eq (fun c2221 => ?_) (fun c2221 => ?_)
      · refine g_iconst (by decide) (fun v2222 kv2222 => ?_)
        exact g_iret ⟨_, rfl, rfl, (fun w n o ew en eo hv => by rw [show w = v1864 from ew.trans tv1864.symm, show n = v1869 from en.trans tv1869.symm, show o = v1874 from eo.trans tv1874.symm]; first | (exfalso; omega) | exact ⟨fun _ => by omega, fun _ => by omega, fun _ => by omega⟩)⟩
      · refine g_iload rfl ?_
        refine g_if_eq (fun c2223 => ?_) (fun c2223 => ?_)
        · exfalso; omega
        · refine g_aload_n rfl ?_
          refine g_gfr hI sm_0 rfl ?_
          refine g_iload rfl ?_
          refine g_baload hI sm_7 rfl (by first | with_reducible assumption | omega) (fun v2224 ev2224 lv2224 uv2224 => ?_)
          have yv2224 : v2224.toInt = (aZ H 7 v1874.toInt.toNat).toInt := by rw [ev2224]
          refine g_if_ne (fun c2225 => ?_) (fun c2225 => ?_)
          · refine g_aload_n rfl ?_
            refine g_gfr hI sm_0 rfl ?_
            refine g_iload_n rfl ?_
            refine g_baload hI sm_16 rfl (by first | with_reducible assumption | omega) (fun v2226 ev2226 lv2226 uv2226 => ?_)
            refine g_if_ne (fun c2227 => ?_) (fun c2227 => ?_)
            · refine g_iconst (by decide) (fun v2228 kv2228 => ?_)
              exact g_iret ⟨_, rfl, rfl, (fun w n o ew en eo hv => by rw [show w = v1864 from ew.trans tv1864.symm, show n = v1869 from en.trans tv1869.symm, show o = v1874 from eo.trans tv1874.symm]; first | (exfalso; omega) | exact ⟨fun _ => by omega, fun _ => by omega, fun _ => by omega⟩)⟩
            · refine g_iload rfl ?_
              refine g_if_eq (fun c2229 => ?_) (fun c2229 => ?_)
              · exfalso; omega
              · refine g_aload_n rfl ?_
                refine g_gfr hI sm_0 rfl ?_
                refine g_iload rfl ?_
                refine g_baload hI sm_16 rfl (by first | with_reducible assumption | omega) (fun v2230 ev2230 lv2230 uv2230 => ?_)
                refine g_if_eq (fun c2231 => ?_) (fun c2231 => ?_)
                · refine g_iload rfl ?_
                  refine g_if_eq (fun c2232 => ?_) (fun c2232 => ?_)
                  · exfalso; omega
                  · refine g_aload_n rfl ?_
                    refine g_gfr hI sm_0 rfl ?_
                    refine g_iload rfl ?_
                    refine g_iaload hI sm_8 rfl (by first | with_reducible assumption | omega) (fun v2233 ev2233 lv2233 uv2233 => ?_)
                    have yv2233 : v2233.toInt = (aZ H 8 v1874.toInt.toNat).toInt := by rw [ev2233]
                    refine g_aload_n rfl ?_
                    refine g_gfr hI sm_0 rfl ?_
                    refine g_iload_n rfl ?_
                    refine g_iaload hI sm_8 rfl (by first | with_reducible assumption | omega) (fun v2234 ev2234 lv2234 uv2234 => ?_)
                    have yv2234 : v2234.toInt = (aZ H 8 v1869.toInt.toNat).toInt := by rw [ev2234]
                    refine g_iconst (by decide) (fun v2235 kv2235 => ?_)
                    refine g_iadd (by first | with_reducible assumption | omega) (fun v2236 ev2236 => ?_)
                    refine g_if2_eq (fun c2237 => ?_) (fun c2237 => ?_)
                    · refine g_iload rfl ?_
                      refine g_if_eq (fun c2238 => ?_) (fun c2238 => ?_)
                      · exfalso; omega
                      · refine g_aload_n rfl ?_
                        refine g_gfr hI sm_0 rfl ?_
                        refine g_iload_n rfl ?_
                        refine g_iaload hI sm_9 rfl (by first | with_reducible assumption | omega) (fun v2239 ev2239 lv2239 uv2239 => ?_)
                        have qv2239 := JM_in hJ (by first | with_reducible assumption | omega) ev2239
                        have yv2239 : v2239.toInt = (aZ H 9 v1869.toInt.toNat).toInt := by rw [ev2239]
                        refine g_bipush (by decide) (fun v2240 kv2240 => ?_)
                        refine g_if2_ne (fun c2241 => ?_) (fun c2241 => ?_)
                        · refine g_iconst (by decide) (fun v2242 kv2242 => ?_)
                          exact g_iret ⟨_, rfl, rfl, (fun w n o ew en eo hv => by rw [show w = v1864 from ew.trans tv1864.symm, show n = v1869 from en.trans tv1869.symm, show o = v1874 from eo.trans tv1874.symm]; first | (exfalso; omega) | exact ⟨fun _ => by omega, fun _ => by omega, fun _ => by omega⟩)⟩
                        · refine g_nop ?_
                          refine g_iload_n rfl ?_
                          refine g_iconst (by decide) (fun v2243 kv2243 => ?_)
                          refine g_if2_ne (fun c2244 => ?_) (fun c2244 => ?_)
                          · refine g_iload_n rfl ?_
                            refine g_iconst (by decide) (fun v2245 kv2245 => ?_)
                            refine g_if2_lt (fun c2246 => ?_) (fun c2246 => ?_)
                            · exfalso; omega
                            · refine g_iload_n rfl ?_
                              refine g_bipush (by decide) (fun v2247 kv2247 => ?_)
                              refine g_if2_gt (fun c2248 => ?_) (fun c2248 => ?_)
                              · exfalso; omega
                              · refine g_iconst (by decide) (fun v2249 kv2249 => ?_)
                                refine g_goto ?_
                                refine g_istore (l' := [(0, .ref 0), (1, .int a1), (2, .int v1864), (3, .int v1869), (4, .int v1874), (5, .int v2218), (6, .int v2249)]) rfl rfl ?_
                                refine g_iload rfl ?_
                                refine g_if_eq (fun c2250 => ?_) (fun c2250 => ?_)
                                · exfalso; omega
                                · refine g_aload_n rfl ?_
                                  refine g_gfr hI sm_0 rfl ?_
                                  refine g_aload_n rfl ?_
                                  refine g_iload_n rfl ?_
                                  refine g_invvi hI sm_0 rfl rfl rfl rfl (s_185 v1869 (by first | with_reducible assumption | omega) H hI hJ) (fun v2253 H2251 r2252 => ?_)
                                  obtain ⟨rfl, bv2253⟩ := r2252
                                  refine g_baload hI sm_15 rfl (by first | with_reducible assumption | omega) (fun v2254 ev2254 lv2254 uv2254 => ?_)
                                  refine g_if_ne (fun c2255 => ?_) (fun c2255 => ?_)
                                  · refine g_bipush (by decide) (fun v2256 kv2256 => ?_)
                                    exact g_iret ⟨_, rfl, rfl, (fun w n o ew en eo hv => by rw [show w = v1864 from ew.trans tv1864.symm, show n = v1869 from en.trans tv1869.symm, show o = v1874 from eo.trans tv1874.symm]; first | (exfalso; omega) | exact ⟨fun _ => by omega, fun _ => by omega, fun _ => by omega⟩)⟩
                                  · refine g_nop ?_
                                    refine g_iload rfl ?_
                                    refine g_if_eq (fun c2257 => ?_) (fun c2257 => ?_)
                                    · exfalso; omega
                                    · refine g_aload_n rfl ?_
                                      refine g_gfr hI sm_0 rfl ?_
                                      refine g_aload_n rfl ?_
                                      refine g_iload rfl ?_
                                      refine g_invvi hI sm_0 rfl rfl rfl rfl (s_185 v1874 (by first | with_reducible assumption | omega) H hI hJ) (fun v2260 H2258 r2259 => ?_)
                                      obtain ⟨rfl, bv2260⟩ := r2259
                                      refine g_baload hI sm_15 rfl (by first | with_reducible assumption | omega) (fun v2261 ev2261 lv2261 uv2261 => ?_)
                                      refine g_if_eq (fun c2262 => ?_) (fun c2262 => ?_)
                                      · refine g_iload_n rfl ?_
                                        refine g_bipush (by decide) (fun v2263 kv2263 => ?_)
                                        refine g_if2_ne (fun c2264 => ?_) (fun c2264 => ?_)
                                        · refine g_iload rfl ?_
                                          refine g_if_eq (fun c2265 => ?_) (fun c2265 => ?_)
                                          · exfalso; omega
                                          · refine g_aload_n rfl ?_
                                            refine g_gfr hI sm_0 rfl ?_
                                            refine g_iload_n rfl ?_
                                            refine g_iaload hI sm_10 rfl (by first | with_reducible assumption | omega) (fun v2266 ev2266 lv2266 uv2266 => ?_)
                                            refine g_aload_n rfl ?_
                                            refine g_gfr hI sm_0 rfl ?_
                                            refine g_aload_n rfl ?_
                                            refine g_iload rfl ?_
                                            refine g_invvi hI sm_0 rfl rfl rfl rfl (s_185 v1874 (by first | with_reducible assumption | omega) H hI hJ) (fun v2269 H2267 r2268 => ?_)
                                            obtain ⟨rfl, bv2269⟩ := r2268
                                            refine g_iaload hI sm_10 rfl (by first | with_reducible assumption | omega) (fun v2270 ev2270 lv2270 uv2270 => ?_)
                                            refine g_if2_ne (fun c2271 => ?_) (fun c2271 => ?_)
                                            · refine g_bipush (by decide) (fun v2272 kv2272 => ?_)
                                              exact g_iret ⟨_, rfl, rfl, (fun w n o ew en eo hv => by rw [show w = v1864 from ew.trans tv1864.symm, show n = v1869 from en.trans tv1869.symm, show o = v1874 from eo.trans tv1874.symm]; first | (exfalso; omega) | exact ⟨fun _ => by omega, fun _ => by omega, fun _ => by omega⟩)⟩
                                            · refine g_aload_n rfl ?_
                                              refine g_iload rfl ?_
                                              refine g_invvi hI sm_0 rfl rfl rfl rfl (s_188 v1874 H hI (JM_n hJ)) (fun v2275 H2273 r2274 => ?_)
                                              obtain rfl := r2274
                                              refine g_aload_n rfl ?_
                                              refine g_gfr hI sm_0 rfl ?_
                                              refine g_iconst (by decide) (fun v2276 kv2276 => ?_)
                                              refine g_aload_n rfl ?_
                                              refine g_gfr hI sm_0 rfl ?_
                                              refine g_iload rfl ?_
                                              refine g_ialoadk hI sm_8 rfl (by first | with_reducible assumption | omega) ev2233 ?_
                                              refine g_iadd (by first | with_reducible assumption | omega) (fun v2277 ev2277 => ?_)
                                              refine g_iconst (by decide) (fun v2278 kv2278 => ?_)
                                              refine g_isub (by first | with_reducible assumption | omega) (fun v2279 ev2279 => ?_)
                                              refine g_iaload hI sm_2 rfl (by first | with_reducible assumption | omega) (fun v2280 ev2280 lv2280 uv2280 => ?_)
                                              refine g_if2_lt (fun c2281 => ?_) (fun c2281 => ?_)
                                              · refine g_iload_n rfl ?_
                                                refine g_iconst (by decide) (fun v2282 kv2282 => ?_)
                                                refine g_if2_ne (fun c2283 => ?_) (fun c2283 => ?_)
                                                · refine g_iload_n rfl ?_
                                                  refine g_iconst (by decide) (fun v2284 kv2284 => ?_)
                                                  refine g_if2_ne (fun c2285 => ?_) (fun c2285 => ?_)
                                                  · refine g_aload_n rfl ?_
                                                    refine g_iload_n rfl ?_
                                                    refine g_iconst (by decide) (fun v2286 kv2286 => ?_)
                                                    refine g_bipush (by decide) (fun v2287 kv2287 => ?_)
                                                    refine g_bipush (by decide) (fun v2288 kv2288 => ?_)
                                                    refine g_invvi hI sm_0 rfl rfl rfl rfl (s_190 v1864 v2286 v2287 v2288 H hI (JM_n hJ)) (fun v2291 H2289 r2290 => ?_)
                                                    obtain ⟨rfl, bv2291⟩ := r2290
                                                    refine g_if_eq (fun c2292 => ?_) (fun c2292 => ?_)
                                                    · refine g_iload_n rfl ?_
                                                      refine g_iconst (by decide) (fun v2293 kv2293 => ?_)
                                                      refine g_if2_eq (fun c2294 => ?_) (fun c2294 => ?_)
                                                      · exfalso; omega
                                                      · refine g_iload_n rfl ?_
                                                        refine g_bipush (by decide) (fun v2295 kv2295 => ?_)
                                                        refine g_if2_ne (fun c2296 => ?_) (fun c2296 => ?_)
                                                        · refine g_iload rfl ?_
                                                          refine g_if_ne (fun c2297 => ?_) (fun c2297 => ?_)
                                                          · refine g_aload_n rfl ?_
                                                            refine g_iload_n rfl ?_
                                                            refine g_invvi hI sm_0 rfl rfl rfl rfl (s_187 v1869 H hI hJ) (fun v2300 H2298 r2299 => ?_)
                                                            obtain ⟨rfl, bv2300⟩ := r2299
                                                            refine g_if_eq (fun c2301 => ?_) (fun c2301 => ?_)
                                                            · refine g_iload_n rfl ?_
                                                              refine g_bipush (by decide) (fun v2302 kv2302 => ?_)
                                                              refine g_if2_ne (fun c2303 => ?_) (fun c2303 => ?_)
                                                              · refine g_iconst (by decide) (fun v2304 kv2304 => ?_)
                                                                refine g_nop ?_
                                                                exact g_iret ⟨_, rfl, rfl, (fun w n o ew en eo hv => by rw [show w = v1864 from ew.trans tv1864.symm, show n = v1869 from en.trans tv1869.symm, show o = v1874 from eo.trans tv1874.symm]; first | (exfalso; omega) | exact ⟨fun _ => by omega, fun _ => by omega, fun _ => by omega⟩)⟩
                                                              · exfalso; omega
                                                            · refine g_bipush (by decide) (fun v2305 kv2305 => ?_)
                                                              exact g_iret ⟨_, rfl, rfl, (fun w n o ew en eo hv => by rw [show w = v1864 from ew.trans tv1864.symm, show n = v1869 from en.trans tv1869.symm, show o = v1874 from eo.trans tv1874.symm]; first | (exfalso; omega) | exact ⟨fun _ => by omega, fun _ => by omega, fun _ => by omega⟩)⟩
                                                          · exfalso; omega
                                                        · exfalso; omega
                                                    · refine g_aload_n rfl ?_
                                                      refine g_gfr hI sm_0 rfl ?_
                                                      refine g_iload_n rfl ?_
                                                      refine g_ialoadk hI sm_9 rfl (by first | with_reducible assumption | omega) ev2239 ?_
                                                      refine g_bipush (by decide) (fun v2306 kv2306 => ?_)
                                                      refine g_if2_eq (fun c2307 => ?_) (fun c2307 => ?_)
                                                      · refine g_iload_n rfl ?_
                                                        refine g_iconst (by decide) (fun v2308 kv2308 => ?_)
                                                        refine g_if2_eq (fun c2309 => ?_) (fun c2309 => ?_)
                                                        · exfalso; omega
                                                        · refine g_iload_n rfl ?_
                                                          refine g_bipush (by decide) (fun v2310 kv2310 => ?_)
                                                          refine g_if2_ne (fun c2311 => ?_) (fun c2311 => ?_)
                                                          · refine g_iload rfl ?_
                                                            refine g_if_ne (fun c2312 => ?_) (fun c2312 => ?_)
                                                            · refine g_aload_n rfl ?_
                                                              refine g_iload_n rfl ?_
                                                              refine g_invvi hI sm_0 rfl rfl rfl rfl (s_187 v1869 H hI hJ) (fun v2315 H2313 r2314 => ?_)
                                                              obtain ⟨rfl, bv2315⟩ := r2314
                                                              refine g_if_eq (fun c2316 => ?_) (fun c2316 => ?_)
                                                              · refine g_iload_n rfl ?_
                                                                refine g_bipush (by decide) (fun v2317 kv2317 => ?_)
                                                                refine g_if2_ne (fun c2318 => ?_) (fun c2318 => ?_)
                                                                · refine g_iconst (by decide) (fun v2319 kv2319 => ?_)
                                                                  refine g_nop ?_
                                                                  exact g_iret ⟨_, rfl, rfl, (fun w n o ew en eo hv => by rw [show w = v1864 from ew.trans tv1864.symm, show n = v1869 from en.trans tv1869.symm, show o = v1874 from eo.trans tv1874.symm]; first | (exfalso; omega) | exact ⟨fun _ => by omega, fun _ => by omega, fun _ => by omega⟩)⟩
                                                                · exfalso; omega
                                                              · refine g_bipush (by decide) (fun v2320 kv2320 => ?_)
                                                                exact g_iret ⟨_, rfl, rfl, (fun w n o ew en eo hv => by rw [show w = v1864 from ew.trans tv1864.symm, show n = v1869 from en.trans tv1869.symm, show o = v1874 from eo.trans tv1874.symm]; first | (exfalso; omega) | exact ⟨fun _ => by omega, fun _ => by omega, fun _ => by omega⟩)⟩
                                                            · exfalso; omega
                                                          · exfalso; omega
                                                      · exfalso; omega
                                                  · exfalso; omega
                                                · exfalso; omega
                                              · refine g_nop ?_
                                                refine g_bipush (by decide) (fun v2321 kv2321 => ?_)
                                                exact g_iret ⟨_, rfl, rfl, (fun w n o ew en eo hv => by rw [show w = v1864 from ew.trans tv1864.symm, show n = v1869 from en.trans tv1869.symm, show o = v1874 from eo.trans tv1874.symm]; first | (exfalso; omega) | exact ⟨fun _ => by omega, fun _ => by omega, fun _ => by omega⟩)⟩
                                        · exfalso; omega
                                      · refine g_nop ?_
                                        refine g_bipush (by decide) (fun v2322 kv2322 => ?_)
                                        exact g_iret ⟨_, rfl, rfl, (fun w n o ew en eo hv => by rw [show w = v1864 from ew.trans tv1864.symm, show n = v1869 from en.trans tv1869.symm, show o = v1874 from eo.trans tv1874.symm]; first | (exfalso; omega) | exact ⟨fun _ => by omega, fun _ => by omega, fun _ => by omega⟩)⟩
                          · exfalso; omega
                    · refine g_iconst (by decide) (fun v2323 kv2323 => ?_)
                      exact g_iret ⟨_, rfl, rfl, (fun w n o ew en eo hv => by rw [show w = v1864 from ew.trans tv1864.symm, show n = v1869 from en.trans tv1869.symm, show o = v1874 from eo.trans tv1874.symm]; first | (exfalso; omega) | exact ⟨fun _ => by omega, fun _ => by omega, fun _ => by omega⟩)⟩
                · refine g_nop ?_
                  refine g_iconst (by decide) (fun v2324 kv2324 => ?_)
                  exact g_iret ⟨_, rfl, rfl, (fun w n o ew en eo hv => by rw [show w = v1864 from ew.trans tv1864.symm, show n = v1869 from en.trans tv1869.symm, show o = v1874 from eo.trans tv1874.symm]; first | (exfalso; omega) | exact ⟨fun _ => by omega, fun _ => by omega, fun _ => by omega⟩)⟩
          · refine g_nop ?_
            refine g_iconst (by decide) (fun v2325 kv2325 => ?_)
            exact g_iret ⟨_, rfl, rfl, (fun w n o ew en eo hv => by rw [show w = v1864 from ew.trans tv1864.symm, show n = v1869 from en.trans tv1869.symm, show o = v1874 from eo.trans tv1874.symm]; first | (exfalso; omega) | exact ⟨fun _ => by omega, fun _ => by omega, fun _ => by omega⟩)⟩
    · exfalso; omega
set_option maxRecDepth 4000 in
set_option maxHeartbeats 4000000 in
/-- M.lies -/
theorem s_193 (a1 : Int32) (ha1 : 0 ≤ a1.toInt ∧ a1.toInt ≤ 39) (a2 : Int32) (ha2 : 0 ≤ a2.toInt ∧ a2.toInt ≤ 7) (a3 : Int32) (H : mzH) (hI : gI SM H) (hJ : JM H) : gCall 193 [.ref 0, .int a1, .int a2, .int a3] H (gRv (fun H' => gI SM H' ∧ JM H' ∧ (∀ a f, fZ H' a f = fZ H a f) ∧ (∀ i, aZ H' 2 i = aZ H 2 i) ∧ (∀ i, aZ H' 19 i = aZ H 19 i) ∧ (∀ i, aZ H' 17 i = aZ H 17 i) ∧ kpM H H')) := by
  have mkF : ∀ a f, fZ H a f = fZ H a f := fun _ _ => rfl
  have mk2 : ∀ i, aZ H 2 i = aZ H 2 i := fun _ => rfl
  have mk19 : ∀ i, aZ H 19 i = aZ H 19 i := fun _ => rfl
  have mk17 : ∀ i, aZ H 17 i = aZ H 17 i := fun _ => rfl
  have mkfr : kpM H H := kpM_r
  refine gG_call [(0, .ref 0), (1, .int a1), (2, .int a2), (3, .int a3)] ⟨rfl, rfl, rfl, rfl, trivial⟩ ?_
  show gG 4 zB_193 (mzBlk zB_193 0) [(0, .ref 0), (1, .int a1), (2, .int a2), (3, .int a3)] [] H 0 0 _
  refine g_aload_n rfl ?_
  refine g_gfr hI sm_0 rfl ?_
  refine g_iload_n rfl ?_
  refine g_iload_n rfl ?_
  refine g_iastore hI sm_10 (by first | with_reducible assumption | omega) (by first | with_reducible assumption | omega) (fun H49 eH49 hIH49 => ?_)
  have hJH49 : JM H49 := JM_sA (by decide) eH49 hJ
  have m50 : ∀ a f, fZ H49 a f = fZ H a f := fun a f => (by rw [eH49, fZ_sA] : fZ H49 a f = fZ H a f).trans (mkF a f)
  have m51 : ∀ i, aZ H49 2 i = aZ H 2 i := fun i => (by rw [eH49, aZ_sA_nc (by first | with_reducible assumption | omega)] : aZ H49 2 i = aZ H 2 i).trans (mk2 i)
  have m52 : ∀ i, aZ H49 19 i = aZ H 19 i := fun i => (by rw [eH49, aZ_sA_nc (by first | with_reducible assumption | omega)] : aZ H49 19 i = aZ H 19 i).trans (mk19 i)
  have m53 : ∀ i, aZ H49 17 i = aZ H 17 i := fun i => (by rw [eH49, aZ_sA_nc (by first | with_reducible assumption | omega)] : aZ H49 17 i = aZ H 17 i).trans (mk17 i)
  have m54 : kpM H H49 := kpM_A mkfr eH49 (by first | with_reducible assumption | omega)
  refine g_aload_n rfl ?_
  refine g_gfr hIH49 sm_0 rfl ?_
  refine g_iload_n rfl ?_
  refine g_iload_n rfl ?_
  refine g_iastore hIH49 sm_11 (by first | with_reducible assumption | omega) (gz_any _) (fun H55 eH55 hIH55 => ?_)
  have hJH55 : JM H55 := JM_sA (by decide) eH55 hJH49
  have m56 : ∀ a f, fZ H55 a f = fZ H a f := fun a f => (by rw [eH55, fZ_sA] : fZ H55 a f = fZ H49 a f).trans (m50 a f)
  have m57 : ∀ i, aZ H55 2 i = aZ H 2 i := fun i => (by rw [eH55, aZ_sA_nc (by first | with_reducible assumption | omega)] : aZ H55 2 i = aZ H49 2 i).trans (m51 i)
  have m58 : ∀ i, aZ H55 19 i = aZ H 19 i := fun i => (by rw [eH55, aZ_sA_nc (by first | with_reducible assumption | omega)] : aZ H55 19 i = aZ H49 19 i).trans (m52 i)
  have m59 : ∀ i, aZ H55 17 i = aZ H 17 i := fun i => (by rw [eH55, aZ_sA_nc (by first | with_reducible assumption | omega)] : aZ H55 17 i = aZ H49 17 i).trans (m53 i)
  have m60 : kpM H H55 := kpM_A m54 eH55 (by first | with_reducible assumption | omega)
  exact g_ret ⟨rfl, hIH55, hJH55, m56, m57, m58, m59, m60⟩
set_option maxRecDepth 4000 in
set_option maxHeartbeats 4000000 in
/-- M.comesOut -/
theorem s_195 (a1 : Int32) (ha1 : 0 ≤ a1.toInt ∧ a1.toInt ≤ 39) (a2 : Int32) (ha2 : 0 ≤ a2.toInt ∧ a2.toInt ≤ 7) (a3 : Int32) (H : mzH) (hI : gI SM H) (hJ : JM H) (hp0 : ¬ (aZ H 9 a1.toInt.toNat).toInt = -5) : gCall 195 [.ref 0, .int a1, .int a2, .int a3] H (gRv (fun H' => gI SM H' ∧ JM H' ∧ (∀ a f, fZ H' a f = fZ H a f) ∧ (∀ i, aZ H' 2 i = aZ H 2 i) ∧ (∀ i, aZ H' 19 i = aZ H 19 i) ∧ (∀ i, aZ H' 17 i = aZ H 17 i) ∧ kpM H H')) := by
  have mkF : ∀ a f, fZ H a f = fZ H a f := fun _ _ => rfl
  have mk2 : ∀ i, aZ H 2 i = aZ H 2 i := fun _ => rfl
  have mk19 : ∀ i, aZ H 19 i = aZ H 19 i := fun _ => rfl
  have mk17 : ∀ i, aZ H 17 i = aZ H 17 i := fun _ => rfl
  have mkfr : kpM H H := kpM_r
  refine gG_call [(0, .ref 0), (1, .int a1), (2, .int a2), (3, .int a3)] ⟨rfl, rfl, rfl, rfl, trivial⟩ ?_
  show gG 4 zB_195 (mzBlk zB_195 0) [(0, .ref 0), (1, .int a1), (2, .int a2), (3, .int a3)] [] H 0 0 _
  refine g_aload_n rfl ?_
  refine g_gfr hI sm_0 rfl ?_
  refine g_aload_n rfl ?_
  refine g_gfr hI sm_0 rfl ?_
  refine g_iload_n rfl ?_
  refine g_iaload hI sm_9 rfl (by first | with_reducible assumption | omega) (fun v109 ev109 lv109 uv109 => ?_)
  have qv109 := JM_in hJ (by first | with_reducible assumption | omega) ev109
  have yv109 : v109.toInt = (aZ H 9 a1.toInt.toNat).toInt := by rw [ev109]
  refine g_iconst (by decide) (fun v110 kv110 => ?_)
  refine g_zastore hI sm_13 (by first | with_reducible assumption | omega) (by first | with_reducible assumption | omega) (fun H111 eH111 hIH111 => ?_)
  have hJH111 : JM H111 := JM_sA (by decide) eH111 hJ
  have m112 : ∀ a f, fZ H111 a f = fZ H a f := fun a f => (by rw [eH111, fZ_sA] : fZ H111 a f = fZ H a f).trans (mkF a f)
  have m113 : ∀ i, aZ H111 2 i = aZ H 2 i := fun i => (by rw [eH111, aZ_sA_nc (by first | with_reducible assumption | omega)] : aZ H111 2 i = aZ H 2 i).trans (mk2 i)
  have m114 : ∀ i, aZ H111 19 i = aZ H 19 i := fun i => (by rw [eH111, aZ_sA_nc (by first | with_reducible assumption | omega)] : aZ H111 19 i = aZ H 19 i).trans (mk19 i)
  have m115 : ∀ i, aZ H111 17 i = aZ H 17 i := fun i => (by rw [eH111, aZ_sA_nc (by first | with_reducible assumption | omega)] : aZ H111 17 i = aZ H 17 i).trans (mk17 i)
  have m116 : kpM H H111 := kpM_A mkfr eH111 (by first | with_reducible assumption | omega)
  refine g_aload_n rfl ?_
  refine g_gfr hIH111 sm_0 rfl ?_
  refine g_iload_n rfl ?_
  refine g_bipush (by decide) (fun v117 kv117 => ?_)
  refine g_iastore hIH111 sm_9 (by first | with_reducible assumption | omega) (by first | with_reducible assumption | omega) (fun H118 eH118 hIH118 => ?_)
  have hJH118 : JM H118 := JM_out hIH111 hJH111 (by first | with_reducible assumption | omega) (by first | with_reducible assumption | omega) eH118
  have m119 : ∀ a f, fZ H118 a f = fZ H a f := fun a f => (by rw [eH118, fZ_sA] : fZ H118 a f = fZ H111 a f).trans (m112 a f)
  have m120 : ∀ i, aZ H118 2 i = aZ H 2 i := fun i => (by rw [eH118, aZ_sA_nc (by first | with_reducible assumption | omega)] : aZ H118 2 i = aZ H111 2 i).trans (m113 i)
  have m121 : ∀ i, aZ H118 19 i = aZ H 19 i := fun i => (by rw [eH118, aZ_sA_nc (by first | with_reducible assumption | omega)] : aZ H118 19 i = aZ H111 19 i).trans (m114 i)
  have m122 : ∀ i, aZ H118 17 i = aZ H 17 i := fun i => (by rw [eH118, aZ_sA_nc (by first | with_reducible assumption | omega)] : aZ H118 17 i = aZ H111 17 i).trans (m115 i)
  have m123 : kpM H H118 := kpM_A m116 eH118 (by first | with_reducible assumption | omega)
  refine g_aload_n rfl ?_
  refine g_iload_n rfl ?_
  refine g_iload_n rfl ?_
  refine g_iload_n rfl ?_
  refine g_invvv hIH118 sm_0 rfl rfl rfl rfl (s_193 a1 (by first | with_reducible assumption | omega) a2 (by first | with_reducible assumption | omega) a3 H118 hIH118 hJH118) (fun H124 r125 => ?_)
  obtain ⟨hIH124, hJH124, m126, m127, m128, m129, m130⟩ := r125
  have m131 : ∀ a f, fZ H124 a f = fZ H a f := fun a f => (m126 a f).trans (m119 a f)
  have m132 : ∀ i, aZ H124 2 i = aZ H 2 i := fun i => (m127 i).trans (m120 i)
  have m133 : ∀ i, aZ H124 19 i = aZ H 19 i := fun i => (m128 i).trans (m121 i)
  have m134 : ∀ i, aZ H124 17 i = aZ H 17 i := fun i => (m129 i).trans (m122 i)
  have m135 : kpM H H124 := kpM_t m123 m130
  exact g_ret ⟨rfl, hIH124, hJH124, m131, m132, m133, m134, m135⟩
set_option maxRecDepth 4000 in
set_option maxHeartbeats 4000000 in
/-- M.scans -/
theorem s_196 (a1 : Int32) (ha1 : 0 ≤ a1.toInt ∧ a1.toInt ≤ 39) (a2 : Int32) (ha2 : 0 ≤ a2.toInt ∧ a2.toInt ≤ 7) (a3 : Int32) (H : mzH) (hI : gI SM H) (hJ : JM H) : gCall 196 [.ref 0, .int a1, .int a2, .int a3] H (gRv (fun H' => gI SM H' ∧ JM H' ∧ (∀ a f, fZ H' a f = fZ H a f) ∧ (∀ i, aZ H' 2 i = aZ H 2 i) ∧ (∀ i, aZ H' 19 i = aZ H 19 i) ∧ (∀ i, aZ H' 17 i = aZ H 17 i) ∧ kpM H H')) := by
  have mkF : ∀ a f, fZ H a f = fZ H a f := fun _ _ => rfl
  have mk2 : ∀ i, aZ H 2 i = aZ H 2 i := fun _ => rfl
  have mk19 : ∀ i, aZ H 19 i = aZ H 19 i := fun _ => rfl
  have mk17 : ∀ i, aZ H 17 i = aZ H 17 i := fun _ => rfl
  have mkfr : kpM H H := kpM_r
  refine gG_call [(0, .ref 0), (1, .int a1), (2, .int a2), (3, .int a3)] ⟨rfl, rfl, rfl, rfl, trivial⟩ ?_
  show gG 6 zB_196 (mzBlk zB_196 0) [(0, .ref 0), (1, .int a1), (2, .int a2), (3, .int a3)] [] H 0 0 _
  refine g_aload_n rfl ?_
  refine g_gfr hI sm_0 rfl ?_
  refine g_iload_n rfl ?_
  refine g_iload_n rfl ?_
  refine g_iastore hI sm_12 (by first | with_reducible assumption | omega) (gz_any _) (fun H221 eH221 hIH221 => ?_)
  have hJH221 : JM H221 := JM_sA (by decide) eH221 hJ
  have m222 : ∀ a f, fZ H221 a f = fZ H a f := fun a f => (by rw [eH221, fZ_sA] : fZ H221 a f = fZ H a f).trans (mkF a f)
  have m223 : ∀ i, aZ H221 2 i = aZ H 2 i := fun i => (by rw [eH221, aZ_sA_nc (by first | with_reducible assumption | omega)] : aZ H221 2 i = aZ H 2 i).trans (mk2 i)
  have m224 : ∀ i, aZ H221 19 i = aZ H 19 i := fun i => (by rw [eH221, aZ_sA_nc (by first | with_reducible assumption | omega)] : aZ H221 19 i = aZ H 19 i).trans (mk19 i)
  have m225 : ∀ i, aZ H221 17 i = aZ H 17 i := fun i => (by rw [eH221, aZ_sA_nc (by first | with_reducible assumption | omega)] : aZ H221 17 i = aZ H 17 i).trans (mk17 i)
  have m226 : kpM H H221 := kpM_A mkfr eH221 (by first | with_reducible assumption | omega)
  refine g_aload_n rfl ?_
  refine g_iload_n rfl ?_
  refine g_invvi hIH221 sm_0 rfl rfl rfl rfl (s_185 a1 (by first | with_reducible assumption | omega) H221 hIH221 hJH221) (fun v229 H227 r228 => ?_)
  obtain ⟨rfl, bv229⟩ := r228
  refine g_istore (l' := [(0, .ref 0), (1, .int a1), (2, .int a2), (3, .int a3), (4, .int v229)]) rfl rfl ?_
  refine g_aload_n rfl ?_
  refine g_gfr hIH221 sm_0 rfl ?_
  refine g_iload rfl ?_
  refine g_iaload hIH221 sm_10 rfl (by first | with_reducible assumption | omega) (fun v230 ev230 lv230 uv230 => ?_)
  refine g_iload_n rfl ?_
  refine g_if2_ne (fun c231 => ?_) (fun c231 => ?_)
  · refine g_iload_n rfl ?_
    refine g_istore (l' := [(0, .ref 0), (1, .int a1), (2, .int a2), (3, .int a3), (4, .int v229), (5, .int a1)]) rfl rfl ?_
    refine g_nop ?_
    have L233 : ∀ (N : Nat) (v232 : Int32), (0 ≤ v232.toInt ∧ v232.toInt ≤ 39) → mK H221 v232 < N → gG 6 zB_196 (mzBlk zB_196 2) [(0, .ref 0), (1, .int a1), (2, .int a2), (3, .int a3), (4, .int v229), (5, .int v232)] [] H221 0 0 (gRv (fun H' => gI SM H' ∧ JM H' ∧ (∀ a f, fZ H' a f = fZ H a f) ∧ (∀ i, aZ H' 2 i = aZ H 2 i) ∧ (∀ i, aZ H' 19 i = aZ H 19 i) ∧ (∀ i, aZ H' 17 i = aZ H 17 i) ∧ kpM H H')) := by
      intro N
      induction N with
      | zero => intro v232 bv232 hmL233; exact absurd hmL233 (Nat.not_lt_zero _)
      | succ N ihL233 =>
        intro v232 bv232 hmL233
        refine g_aload_n rfl ?_
        refine g_gfr hIH221 sm_0 rfl ?_
        refine g_iload rfl ?_
        refine g_iaload hIH221 sm_9 rfl (by first | with_reducible assumption | omega) (fun v234 ev234 lv234 uv234 => ?_)
        have qv234 := JM_in hJH221 (by first | with_reducible assumption | omega) ev234
        have yv234 : v234.toInt = (aZ H221 9 v232.toInt.toNat).toInt := by rw [ev234]
        refine g_bipush (by decide) (fun v235 kv235 => ?_)
        refine g_if2_eq (fun c236 => ?_) (fun c236 => ?_)
        · refine g_aload_n rfl ?_
          refine g_gfr hIH221 sm_0 rfl ?_
          refine g_iload rfl ?_
          refine g_ialoadk hIH221 sm_9 rfl (by first | with_reducible assumption | omega) ev234 ?_
          refine g_bipush (by decide) (fun v237 kv237 => ?_)
          refine g_if2_eq (fun c238 => ?_) (fun c238 => ?_)
          · refine g_aload_n rfl ?_
            refine g_iload rfl ?_
            refine g_iload_n rfl ?_
            refine g_iload_n rfl ?_
            refine g_invvv hIH221 sm_0 rfl rfl rfl rfl (s_193 v229 (by first | with_reducible assumption | omega) a2 (by first | with_reducible assumption | omega) a3 H221 hIH221 hJH221) (fun H239 r240 => ?_)
            obtain ⟨hIH239, hJH239, m241, m242, m243, m244, m245⟩ := r240
            have m246 : ∀ a f, fZ H239 a f = fZ H a f := fun a f => (m241 a f).trans (m222 a f)
            have m247 : ∀ i, aZ H239 2 i = aZ H 2 i := fun i => (m242 i).trans (m223 i)
            have m248 : ∀ i, aZ H239 19 i = aZ H 19 i := fun i => (m243 i).trans (m224 i)
            have m249 : ∀ i, aZ H239 17 i = aZ H 17 i := fun i => (m244 i).trans (m225 i)
            have m250 : kpM H H239 := kpM_t m226 m245
            refine g_nop ?_
            exact g_ret ⟨rfl, hIH239, hJH239, m246, m247, m248, m249, m250⟩
          · exfalso; omega
        · refine g_aload_n rfl ?_
          refine g_gfr hIH221 sm_0 rfl ?_
          refine g_aload_n rfl ?_
          refine g_gfr hIH221 sm_0 rfl ?_
          refine g_iload rfl ?_
          refine g_ialoadk hIH221 sm_9 rfl (by first | with_reducible assumption | omega) ev234 ?_
          refine g_baload hIH221 sm_13 rfl (by first | with_reducible assumption | omega) (fun v251 ev251 lv251 uv251 => ?_)
          refine g_if_ne (fun c252 => ?_) (fun c252 => ?_)
          · refine g_aload_n rfl ?_
            refine g_gfr hIH221 sm_0 rfl ?_
            refine g_iload rfl ?_
            refine g_ialoadk hIH221 sm_9 rfl (by first | with_reducible assumption | omega) ev234 ?_
            refine g_bipush (by decide) (fun v253 kv253 => ?_)
            refine g_if2_eq (fun c254 => ?_) (fun c254 => ?_)
            · exfalso; omega
            · refine g_aload_n rfl ?_
              refine g_iload rfl ?_
              refine g_iload_n rfl ?_
              refine g_iload_n rfl ?_
              refine g_invvv hIH221 sm_0 rfl rfl rfl rfl (s_195 v232 (by first | with_reducible assumption | omega) a2 (by first | with_reducible assumption | omega) a3 H221 hIH221 hJH221 (by first | with_reducible assumption | omega)) (fun H255 r256 => ?_)
              obtain ⟨hIH255, hJH255, m257, m258, m259, m260, m261⟩ := r256
              have m262 : ∀ a f, fZ H255 a f = fZ H a f := fun a f => (m257 a f).trans (m222 a f)
              have m263 : ∀ i, aZ H255 2 i = aZ H 2 i := fun i => (m258 i).trans (m223 i)
              have m264 : ∀ i, aZ H255 19 i = aZ H 19 i := fun i => (m259 i).trans (m224 i)
              have m265 : ∀ i, aZ H255 17 i = aZ H 17 i := fun i => (m260 i).trans (m225 i)
              have m266 : kpM H H255 := kpM_t m226 m261
              refine g_goto ?_
              exact g_ret ⟨rfl, hIH255, hJH255, m262, m263, m264, m265, m266⟩
          · refine g_aload_n rfl ?_
            refine g_gfr hIH221 sm_0 rfl ?_
            refine g_iload rfl ?_
            refine g_ialoadk hIH221 sm_9 rfl (by first | with_reducible assumption | omega) ev234 ?_
            refine g_istore (l' := [(0, .ref 0), (1, .int a1), (2, .int a2), (3, .int a3), (4, .int v229), (5, .int v234)]) rfl rfl ?_
            refine g_goto ?_
            exact ihL233 v234 (by first | with_reducible assumption | omega) (mK_up hIH221 hJH221 (by first | with_reducible assumption | omega) ev234 hmL233)
    exact L233 _ a1 (by first | with_reducible assumption | omega) (Nat.lt_succ_self _)
  · refine g_aload_n rfl ?_
    refine g_gfr hIH221 sm_0 rfl ?_
    refine g_iload rfl ?_
    refine g_iload_n rfl ?_
    refine g_iastore hIH221 sm_11 (by first | with_reducible assumption | omega) (gz_any _) (fun H267 eH267 hIH267 => ?_)
    have hJH267 : JM H267 := JM_sA (by decide) eH267 hJH221
    have m268 : ∀ a f, fZ H267 a f = fZ H a f := fun a f => (by rw [eH267, fZ_sA] : fZ H267 a f = fZ H221 a f).trans (m222 a f)
    have m269 : ∀ i, aZ H267 2 i = aZ H 2 i := fun i => (by rw [eH267, aZ_sA_nc (by first | with_reducible assumption | omega)] : aZ H267 2 i = aZ H221 2 i).trans (m223 i)
    have m270 : ∀ i, aZ H267 19 i = aZ H 19 i := fun i => (by rw [eH267, aZ_sA_nc (by first | with_reducible assumption | omega)] : aZ H267 19 i = aZ H221 19 i).trans (m224 i)
    have m271 : ∀ i, aZ H267 17 i = aZ H 17 i := fun i => (by rw [eH267, aZ_sA_nc (by first | with_reducible assumption | omega)] : aZ H267 17 i = aZ H221 17 i).trans (m225 i)
    have m272 : kpM H H267 := kpM_A m226 eH267 (by first | with_reducible assumption | omega)
    exact g_ret ⟨rfl, hIH267, hJH267, m268, m269, m270, m271, m272⟩
set_option maxRecDepth 4000 in
set_option maxHeartbeats 4000000 in
/-- M.ends -/
theorem s_197 (a1 : Int32) (ha1 : 0 ≤ a1.toInt ∧ a1.toInt ≤ 39) (H : mzH) (hI : gI SM H) (hJ : JM H) : gCall 197 [.ref 0, .int a1] H (gRv (fun H' => gI SM H' ∧ JM H' ∧ (∀ a f, fZ H' a f = fZ H a f) ∧ (∀ i, aZ H' 2 i = aZ H 2 i) ∧ (∀ i, aZ H' 19 i = aZ H 19 i) ∧ (∀ i, aZ H' 17 i = aZ H 17 i) ∧ kpM H H')) := by
  have mkF : ∀ a f, fZ H a f = fZ H a f := fun _ _ => rfl
  have mk2 : ∀ i, aZ H 2 i = aZ H 2 i := fun _ => rfl
  have mk19 : ∀ i, aZ H 19 i = aZ H 19 i := fun _ => rfl
  have mk17 : ∀ i, aZ H 17 i = aZ H 17 i := fun _ => rfl
  have mkfr : kpM H H := kpM_r
  refine gG_call [(0, .ref 0), (1, .int a1)] ⟨rfl, rfl, trivial⟩ ?_
  show gG 3 zB_197 (mzBlk zB_197 0) [(0, .ref 0), (1, .int a1)] [] H 0 0 _
  refine g_iconst (by decide) (fun v965 kv965 => ?_)
  refine g_istore_n (l' := [(0, .ref 0), (1, .int a1), (2, .int v965)]) rfl rfl ?_
  refine g_nop ?_
  have L973 : ∀ (N : Nat) (v966 : Int32) (H967 : mzH), gI SM H967 → JM H967 → (∀ a f, fZ H967 a f = fZ H a f) → (∀ i, aZ H967 2 i = aZ H 2 i) → (∀ i, aZ H967 19 i = aZ H 19 i) → (∀ i, aZ H967 17 i = aZ H 17 i) → kpM H H967 → (0 ≤ v966.toInt ∧ v966.toInt ≤ 40) → (40 - v966.toInt).toNat < N → gG 3 zB_197 (mzBlk zB_197 1) [(0, .ref 0), (1, .int a1), (2, .int v966)] [] H967 0 0 (gRv (fun H' => gI SM H' ∧ JM H' ∧ (∀ a f, fZ H' a f = fZ H a f) ∧ (∀ i, aZ H' 2 i = aZ H 2 i) ∧ (∀ i, aZ H' 19 i = aZ H 19 i) ∧ (∀ i, aZ H' 17 i = aZ H 17 i) ∧ kpM H H')) := by
    intro N
    induction N with
    | zero => intro v966 H967 hIH967 hJH967 m968 m969 m970 m971 m972 bv966 hmL973; exact absurd hmL973 (Nat.not_lt_zero _)
    | succ N ihL973 =>
      intro v966 H967 hIH967 hJH967 m968 m969 m970 m971 m972 bv966 hmL973
      refine g_iload_n rfl ?_
      refine g_bipush (by decide) (fun v974 kv974 => ?_)
      refine g_if2_ge (fun c975 => ?_) (fun c975 => ?_)
      · refine g_aload_n rfl ?_
        refine g_gfr hIH967 sm_0 rfl ?_
        refine g_iload_n rfl ?_
        refine g_iaload hIH967 sm_9 rfl (by first | with_reducible assumption | omega) (fun v976 ev976 lv976 uv976 => ?_)
        have qv976 := JM_in hJH967 (by first | with_reducible assumption | omega) ev976
        have yv976 : v976.toInt = (aZ H967 9 a1.toInt.toNat).toInt := by rw [ev976]
        refine g_bipush (by decide) (fun v977 kv977 => ?_)
        refine g_if2_eq (fun c978 => ?_) (fun c978 => ?_)
        · refine g_iconst (by decide) (fun v979 kv979 => ?_)
          refine g_istore_n (l' := [(0, .ref 0), (1, .int a1), (2, .int v979)]) rfl rfl ?_
          refine g_nop ?_
          have L987 : ∀ (N : Nat) (v980 : Int32) (H981 : mzH), gI SM H981 → JM H981 → (∀ a f, fZ H981 a f = fZ H a f) → (∀ i, aZ H981 2 i = aZ H 2 i) → (∀ i, aZ H981 19 i = aZ H 19 i) → (∀ i, aZ H981 17 i = aZ H 17 i) → kpM H H981 → (0 ≤ v980.toInt ∧ v980.toInt ≤ 40) → (40 - v980.toInt).toNat < N → gG 3 zB_197 (mzBlk zB_197 7) [(0, .ref 0), (1, .int a1), (2, .int v980)] [] H981 0 0 (gRv (fun H' => gI SM H' ∧ JM H' ∧ (∀ a f, fZ H' a f = fZ H a f) ∧ (∀ i, aZ H' 2 i = aZ H 2 i) ∧ (∀ i, aZ H' 19 i = aZ H 19 i) ∧ (∀ i, aZ H' 17 i = aZ H 17 i) ∧ kpM H H')) := by
            intro N
            induction N with
            | zero => intro v980 H981 hIH981 hJH981 m982 m983 m984 m985 m986 bv980 hmL987; exact absurd hmL987 (Nat.not_lt_zero _)
            | succ N ihL987 =>
              intro v980 H981 hIH981 hJH981 m982 m983 m984 m985 m986 bv980 hmL987
              refine g_iload_n rfl ?_
              refine g_bipush (by decide) (fun v988 kv988 => ?_)
              refine g_if2_ge (fun c989 => ?_) (fun c989 => ?_)
              · exact g_ret ⟨rfl, hIH981, hJH981, m982, m983, m984, m985, m986⟩
              · refine g_aload_n rfl ?_
                refine g_gfr hIH981 sm_0 rfl ?_
                refine g_iload_n rfl ?_
                refine g_baload hIH981 sm_21 rfl (by first | with_reducible assumption | omega) (fun v990 ev990 lv990 uv990 => ?_)
                refine g_if_ne (fun c991 => ?_) (fun c991 => ?_)
                · refine g_aload_n rfl ?_
                  refine g_gfr hIH981 sm_0 rfl ?_
                  refine g_iload_n rfl ?_
                  refine g_iconst (by decide) (fun v992 kv992 => ?_)
                  refine g_zastore hIH981 sm_16 (by first | with_reducible assumption | omega) (by first | with_reducible assumption | omega) (fun H993 eH993 hIH993 => ?_)
                  have hJH993 : JM H993 := JM_sA (by decide) eH993 hJH981
                  have m994 : ∀ a f, fZ H993 a f = fZ H a f := fun a f => (by rw [eH993, fZ_sA] : fZ H993 a f = fZ H981 a f).trans (m982 a f)
                  have m995 : ∀ i, aZ H993 2 i = aZ H 2 i := fun i => (by rw [eH993, aZ_sA_nc (by first | with_reducible assumption | omega)] : aZ H993 2 i = aZ H981 2 i).trans (m983 i)
                  have m996 : ∀ i, aZ H993 19 i = aZ H 19 i := fun i => (by rw [eH993, aZ_sA_nc (by first | with_reducible assumption | omega)] : aZ H993 19 i = aZ H981 19 i).trans (m984 i)
                  have m997 : ∀ i, aZ H993 17 i = aZ H 17 i := fun i => (by rw [eH993, aZ_sA_nc (by first | with_reducible assumption | omega)] : aZ H993 17 i = aZ H981 17 i).trans (m985 i)
                  have m998 : kpM H H993 := kpM_A m986 eH993 (by first | with_reducible assumption | omega)
                  refine g_aload_n rfl ?_
                  refine g_gfr hIH993 sm_0 rfl ?_
                  refine g_iload_n rfl ?_
                  refine g_bipush (by decide) (fun v999 kv999 => ?_)
                  refine g_iastore hIH993 sm_9 (by first | with_reducible assumption | omega) (by first | with_reducible assumption | omega) (fun H1000 eH1000 hIH1000 => ?_)
                  have hJH1000 : JM H1000 := JM_out hIH993 hJH993 (by first | with_reducible assumption | omega) (by first | with_reducible assumption | omega) eH1000
                  have m1001 : ∀ a f, fZ H1000 a f = fZ H a f := fun a f => (by rw [eH1000, fZ_sA] : fZ H1000 a f = fZ H993 a f).trans (m994 a f)
                  have m1002 : ∀ i, aZ H1000 2 i = aZ H 2 i := fun i => (by rw [eH1000, aZ_sA_nc (by first | with_reducible assumption | omega)] : aZ H1000 2 i = aZ H993 2 i).trans (m995 i)
                  have m1003 : ∀ i, aZ H1000 19 i = aZ H 19 i := fun i => (by rw [eH1000, aZ_sA_nc (by first | with_reducible assumption | omega)] : aZ H1000 19 i = aZ H993 19 i).trans (m996 i)
                  have m1004 : ∀ i, aZ H1000 17 i = aZ H 17 i := fun i => (by rw [eH1000, aZ_sA_nc (by first | with_reducible assumption | omega)] : aZ H1000 17 i = aZ H993 17 i).trans (m997 i)
                  have m1005 : kpM H H1000 := kpM_A m998 eH1000 (by first | with_reducible assumption | omega)
                  refine g_aload_n rfl ?_
                  refine g_gfr hIH1000 sm_0 rfl ?_
                  refine g_iload_n rfl ?_
                  refine g_iconst (by decide) (fun v1006 kv1006 => ?_)
                  refine g_zastore hIH1000 sm_13 (by first | with_reducible assumption | omega) (by first | with_reducible assumption | omega) (fun H1007 eH1007 hIH1007 => ?_)
                  have hJH1007 : JM H1007 := JM_sA (by decide) eH1007 hJH1000
                  have m1008 : ∀ a f, fZ H1007 a f = fZ H a f := fun a f => (by rw [eH1007, fZ_sA] : fZ H1007 a f = fZ H1000 a f).trans (m1001 a f)
                  have m1009 : ∀ i, aZ H1007 2 i = aZ H 2 i := fun i => (by rw [eH1007, aZ_sA_nc (by first | with_reducible assumption | omega)] : aZ H1007 2 i = aZ H1000 2 i).trans (m1002 i)
                  have m1010 : ∀ i, aZ H1007 19 i = aZ H 19 i := fun i => (by rw [eH1007, aZ_sA_nc (by first | with_reducible assumption | omega)] : aZ H1007 19 i = aZ H1000 19 i).trans (m1003 i)
                  have m1011 : ∀ i, aZ H1007 17 i = aZ H 17 i := fun i => (by rw [eH1007, aZ_sA_nc (by first | with_reducible assumption | omega)] : aZ H1007 17 i = aZ H1000 17 i).trans (m1004 i)
                  have m1012 : kpM H H1007 := kpM_A m1005 eH1007 (by first | with_reducible assumption | omega)
                  refine g_aload_n rfl ?_
                  refine g_gfr hIH1007 sm_0 rfl ?_
                  refine g_iload_n rfl ?_
                  refine g_iconst (by decide) (fun v1013 kv1013 => ?_)
                  refine g_zastore hIH1007 sm_14 (by first | with_reducible assumption | omega) (by first | with_reducible assumption | omega) (fun H1014 eH1014 hIH1014 => ?_)
                  have hJH1014 : JM H1014 := JM_sA (by decide) eH1014 hJH1007
                  have m1015 : ∀ a f, fZ H1014 a f = fZ H a f := fun a f => (by rw [eH1014, fZ_sA] : fZ H1014 a f = fZ H1007 a f).trans (m1008 a f)
                  have m1016 : ∀ i, aZ H1014 2 i = aZ H 2 i := fun i => (by rw [eH1014, aZ_sA_nc (by first | with_reducible assumption | omega)] : aZ H1014 2 i = aZ H1007 2 i).trans (m1009 i)
                  have m1017 : ∀ i, aZ H1014 19 i = aZ H 19 i := fun i => (by rw [eH1014, aZ_sA_nc (by first | with_reducible assumption | omega)] : aZ H1014 19 i = aZ H1007 19 i).trans (m1010 i)
                  have m1018 : ∀ i, aZ H1014 17 i = aZ H 17 i := fun i => (by rw [eH1014, aZ_sA_nc (by first | with_reducible assumption | omega)] : aZ H1014 17 i = aZ H1007 17 i).trans (m1011 i)
                  have m1019 : kpM H H1014 := kpM_A m1012 eH1014 (by first | with_reducible assumption | omega)
                  refine g_aload_n rfl ?_
                  refine g_gfr hIH1014 sm_0 rfl ?_
                  refine g_iload_n rfl ?_
                  refine g_iconst (by decide) (fun v1020 kv1020 => ?_)
                  refine g_zastore hIH1014 sm_15 (by first | with_reducible assumption | omega) (by first | with_reducible assumption | omega) (fun H1021 eH1021 hIH1021 => ?_)
                  have hJH1021 : JM H1021 := JM_sA (by decide) eH1021 hJH1014
                  have m1022 : ∀ a f, fZ H1021 a f = fZ H a f := fun a f => (by rw [eH1021, fZ_sA] : fZ H1021 a f = fZ H1014 a f).trans (m1015 a f)
                  have m1023 : ∀ i, aZ H1021 2 i = aZ H 2 i := fun i => (by rw [eH1021, aZ_sA_nc (by first | with_reducible assumption | omega)] : aZ H1021 2 i = aZ H1014 2 i).trans (m1016 i)
                  have m1024 : ∀ i, aZ H1021 19 i = aZ H 19 i := fun i => (by rw [eH1021, aZ_sA_nc (by first | with_reducible assumption | omega)] : aZ H1021 19 i = aZ H1014 19 i).trans (m1017 i)
                  have m1025 : ∀ i, aZ H1021 17 i = aZ H 17 i := fun i => (by rw [eH1021, aZ_sA_nc (by first | with_reducible assumption | omega)] : aZ H1021 17 i = aZ H1014 17 i).trans (m1018 i)
                  have m1026 : kpM H H1021 := kpM_A m1019 eH1021 (by first | with_reducible assumption | omega)
                  refine g_nop ?_
                  refine g_iinc (l' := (fun v1027 => [(0, .ref 0), (1, .int a1), (2, .int v1027)])) rfl rfl (by decide) (by first | with_reducible assumption | omega) (fun _ => rfl) (fun v1027 ev1027 => ?_)
                  refine g_goto ?_
                  exact ihL987 v1027 H1021 hIH1021 hJH1021 m1022 m1023 m1024 m1025 m1026 (by first | with_reducible assumption | omega) (by first | with_reducible assumption | omega)
                · refine g_goto ?_
                  refine g_iinc (l' := (fun v1028 => [(0, .ref 0), (1, .int a1), (2, .int v1028)])) rfl rfl (by decide) (by first | with_reducible assumption | omega) (fun _ => rfl) (fun v1028 ev1028 => ?_)
                  refine g_goto ?_
                  exact ihL987 v1028 H981 hIH981 hJH981 m982 m983 m984 m985 m986 (by first | with_reducible assumption | omega) (by first | with_reducible assumption | omega)
          exact L987 _ v979 H967 hIH967 hJH967 m968 m969 m970 m971 m972 (by first | with_reducible assumption | omega) (Nat.lt_succ_self _)
        · refine g_aload_n rfl ?_
          refine g_gfr hIH967 sm_0 rfl ?_
          refine g_aload_n rfl ?_
          refine g_gfr hIH967 sm_0 rfl ?_
          refine g_iload_n rfl ?_
          refine g_ialoadk hIH967 sm_9 rfl (by first | with_reducible assumption | omega) ev976 ?_
          refine g_iconst (by decide) (fun v1029 kv1029 => ?_)
          refine g_zastore hIH967 sm_13 (by first | with_reducible assumption | omega) (by first | with_reducible assumption | omega) (fun H1030 eH1030 hIH1030 => ?_)
          have hJH1030 : JM H1030 := JM_sA (by decide) eH1030 hJH967
          have m1031 : ∀ a f, fZ H1030 a f = fZ H a f := fun a f => (by rw [eH1030, fZ_sA] : fZ H1030 a f = fZ H967 a f).trans (m968 a f)
          have m1032 : ∀ i, aZ H1030 2 i = aZ H 2 i := fun i => (by rw [eH1030, aZ_sA_nc (by first | with_reducible assumption | omega)] : aZ H1030 2 i = aZ H967 2 i).trans (m969 i)
          have m1033 : ∀ i, aZ H1030 19 i = aZ H 19 i := fun i => (by rw [eH1030, aZ_sA_nc (by first | with_reducible assumption | omega)] : aZ H1030 19 i = aZ H967 19 i).trans (m970 i)
          have m1034 : ∀ i, aZ H1030 17 i = aZ H 17 i := fun i => (by rw [eH1030, aZ_sA_nc (by first | with_reducible assumption | omega)] : aZ H1030 17 i = aZ H967 17 i).trans (m971 i)
          have m1035 : kpM H H1030 := kpM_A m972 eH1030 (by first | with_reducible assumption | omega)
          refine g_nop ?_
          refine g_iconst (by decide) (fun v1036 kv1036 => ?_)
          refine g_istore_n (l' := [(0, .ref 0), (1, .int a1), (2, .int v1036)]) rfl rfl ?_
          refine g_nop ?_
          have L1044 : ∀ (N : Nat) (v1037 : Int32) (H1038 : mzH), gI SM H1038 → JM H1038 → (∀ a f, fZ H1038 a f = fZ H a f) → (∀ i, aZ H1038 2 i = aZ H 2 i) → (∀ i, aZ H1038 19 i = aZ H 19 i) → (∀ i, aZ H1038 17 i = aZ H 17 i) → kpM H H1038 → (0 ≤ v1037.toInt ∧ v1037.toInt ≤ 40) → (40 - v1037.toInt).toNat < N → gG 3 zB_197 (mzBlk zB_197 7) [(0, .ref 0), (1, .int a1), (2, .int v1037)] [] H1038 0 0 (gRv (fun H' => gI SM H' ∧ JM H' ∧ (∀ a f, fZ H' a f = fZ H a f) ∧ (∀ i, aZ H' 2 i = aZ H 2 i) ∧ (∀ i, aZ H' 19 i = aZ H 19 i) ∧ (∀ i, aZ H' 17 i = aZ H 17 i) ∧ kpM H H')) := by
            intro N
            induction N with
            | zero => intro v1037 H1038 hIH1038 hJH1038 m1039 m1040 m1041 m1042 m1043 bv1037 hmL1044; exact absurd hmL1044 (Nat.not_lt_zero _)
            | succ N ihL1044 =>
              intro v1037 H1038 hIH1038 hJH1038 m1039 m1040 m1041 m1042 m1043 bv1037 hmL1044
              refine g_iload_n rfl ?_
              refine g_bipush (by decide) (fun v1045 kv1045 => ?_)
              refine g_if2_ge (fun c1046 => ?_) (fun c1046 => ?_)
              · exact g_ret ⟨rfl, hIH1038, hJH1038, m1039, m1040, m1041, m1042, m1043⟩
              · refine g_aload_n rfl ?_
                refine g_gfr hIH1038 sm_0 rfl ?_
                refine g_iload_n rfl ?_
                refine g_baload hIH1038 sm_21 rfl (by first | with_reducible assumption | omega) (fun v1047 ev1047 lv1047 uv1047 => ?_)
                refine g_if_ne (fun c1048 => ?_) (fun c1048 => ?_)
                · refine g_aload_n rfl ?_
                  refine g_gfr hIH1038 sm_0 rfl ?_
                  refine g_iload_n rfl ?_
                  refine g_iconst (by decide) (fun v1049 kv1049 => ?_)
                  refine g_zastore hIH1038 sm_16 (by first | with_reducible assumption | omega) (by first | with_reducible assumption | omega) (fun H1050 eH1050 hIH1050 => ?_)
                  have hJH1050 : JM H1050 := JM_sA (by decide) eH1050 hJH1038
                  have m1051 : ∀ a f, fZ H1050 a f = fZ H a f := fun a f => (by rw [eH1050, fZ_sA] : fZ H1050 a f = fZ H1038 a f).trans (m1039 a f)
                  have m1052 : ∀ i, aZ H1050 2 i = aZ H 2 i := fun i => (by rw [eH1050, aZ_sA_nc (by first | with_reducible assumption | omega)] : aZ H1050 2 i = aZ H1038 2 i).trans (m1040 i)
                  have m1053 : ∀ i, aZ H1050 19 i = aZ H 19 i := fun i => (by rw [eH1050, aZ_sA_nc (by first | with_reducible assumption | omega)] : aZ H1050 19 i = aZ H1038 19 i).trans (m1041 i)
                  have m1054 : ∀ i, aZ H1050 17 i = aZ H 17 i := fun i => (by rw [eH1050, aZ_sA_nc (by first | with_reducible assumption | omega)] : aZ H1050 17 i = aZ H1038 17 i).trans (m1042 i)
                  have m1055 : kpM H H1050 := kpM_A m1043 eH1050 (by first | with_reducible assumption | omega)
                  refine g_aload_n rfl ?_
                  refine g_gfr hIH1050 sm_0 rfl ?_
                  refine g_iload_n rfl ?_
                  refine g_bipush (by decide) (fun v1056 kv1056 => ?_)
                  refine g_iastore hIH1050 sm_9 (by first | with_reducible assumption | omega) (by first | with_reducible assumption | omega) (fun H1057 eH1057 hIH1057 => ?_)
                  have hJH1057 : JM H1057 := JM_out hIH1050 hJH1050 (by first | with_reducible assumption | omega) (by first | with_reducible assumption | omega) eH1057
                  have m1058 : ∀ a f, fZ H1057 a f = fZ H a f := fun a f => (by rw [eH1057, fZ_sA] : fZ H1057 a f = fZ H1050 a f).trans (m1051 a f)
                  have m1059 : ∀ i, aZ H1057 2 i = aZ H 2 i := fun i => (by rw [eH1057, aZ_sA_nc (by first | with_reducible assumption | omega)] : aZ H1057 2 i = aZ H1050 2 i).trans (m1052 i)
                  have m1060 : ∀ i, aZ H1057 19 i = aZ H 19 i := fun i => (by rw [eH1057, aZ_sA_nc (by first | with_reducible assumption | omega)] : aZ H1057 19 i = aZ H1050 19 i).trans (m1053 i)
                  have m1061 : ∀ i, aZ H1057 17 i = aZ H 17 i := fun i => (by rw [eH1057, aZ_sA_nc (by first | with_reducible assumption | omega)] : aZ H1057 17 i = aZ H1050 17 i).trans (m1054 i)
                  have m1062 : kpM H H1057 := kpM_A m1055 eH1057 (by first | with_reducible assumption | omega)
                  refine g_aload_n rfl ?_
                  refine g_gfr hIH1057 sm_0 rfl ?_
                  refine g_iload_n rfl ?_
                  refine g_iconst (by decide) (fun v1063 kv1063 => ?_)
                  refine g_zastore hIH1057 sm_13 (by first | with_reducible assumption | omega) (by first | with_reducible assumption | omega) (fun H1064 eH1064 hIH1064 => ?_)
                  have hJH1064 : JM H1064 := JM_sA (by decide) eH1064 hJH1057
                  have m1065 : ∀ a f, fZ H1064 a f = fZ H a f := fun a f => (by rw [eH1064, fZ_sA] : fZ H1064 a f = fZ H1057 a f).trans (m1058 a f)
                  have m1066 : ∀ i, aZ H1064 2 i = aZ H 2 i := fun i => (by rw [eH1064, aZ_sA_nc (by first | with_reducible assumption | omega)] : aZ H1064 2 i = aZ H1057 2 i).trans (m1059 i)
                  have m1067 : ∀ i, aZ H1064 19 i = aZ H 19 i := fun i => (by rw [eH1064, aZ_sA_nc (by first | with_reducible assumption | omega)] : aZ H1064 19 i = aZ H1057 19 i).trans (m1060 i)
                  have m1068 : ∀ i, aZ H1064 17 i = aZ H 17 i := fun i => (by rw [eH1064, aZ_sA_nc (by first | with_reducible assumption | omega)] : aZ H1064 17 i = aZ H1057 17 i).trans (m1061 i)
                  have m1069 : kpM H H1064 := kpM_A m1062 eH1064 (by first | with_reducible assumption | omega)
                  refine g_aload_n rfl ?_
                  refine g_gfr hIH1064 sm_0 rfl ?_
                  refine g_iload_n rfl ?_
                  refine g_iconst (by decide) (fun v1070 kv1070 => ?_)
                  refine g_zastore hIH1064 sm_14 (by first | with_reducible assumption | omega) (by first | with_reducible assumption | omega) (fun H1071 eH1071 hIH1071 => ?_)
                  have hJH1071 : JM H1071 := JM_sA (by decide) eH1071 hJH1064
                  have m1072 : ∀ a f, fZ H1071 a f = fZ H a f := fun a f => (by rw [eH1071, fZ_sA] : fZ H1071 a f = fZ H1064 a f).trans (m1065 a f)
                  have m1073 : ∀ i, aZ H1071 2 i = aZ H 2 i := fun i => (by rw [eH1071, aZ_sA_nc (by first | with_reducible assumption | omega)] : aZ H1071 2 i = aZ H1064 2 i).trans (m1066 i)
                  have m1074 : ∀ i, aZ H1071 19 i = aZ H 19 i := fun i => (by rw [eH1071, aZ_sA_nc (by first | with_reducible assumption | omega)] : aZ H1071 19 i = aZ H1064 19 i).trans (m1067 i)
                  have m1075 : ∀ i, aZ H1071 17 i = aZ H 17 i := fun i => (by rw [eH1071, aZ_sA_nc (by first | with_reducible assumption | omega)] : aZ H1071 17 i = aZ H1064 17 i).trans (m1068 i)
                  have m1076 : kpM H H1071 := kpM_A m1069 eH1071 (by first | with_reducible assumption | omega)
                  refine g_aload_n rfl ?_
                  refine g_gfr hIH1071 sm_0 rfl ?_
                  refine g_iload_n rfl ?_
                  refine g_iconst (by decide) (fun v1077 kv1077 => ?_)
                  refine g_zastore hIH1071 sm_15 (by first | with_reducible assumption | omega) (by first | with_reducible assumption | omega) (fun H1078 eH1078 hIH1078 => ?_)
                  have hJH1078 : JM H1078 := JM_sA (by decide) eH1078 hJH1071
                  have m1079 : ∀ a f, fZ H1078 a f = fZ H a f := fun a f => (by rw [eH1078, fZ_sA] : fZ H1078 a f = fZ H1071 a f).trans (m1072 a f)
                  have m1080 : ∀ i, aZ H1078 2 i = aZ H 2 i := fun i => (by rw [eH1078, aZ_sA_nc (by first | with_reducible assumption | omega)] : aZ H1078 2 i = aZ H1071 2 i).trans (m1073 i)
                  have m1081 : ∀ i, aZ H1078 19 i = aZ H 19 i := fun i => (by rw [eH1078, aZ_sA_nc (by first | with_reducible assumption | omega)] : aZ H1078 19 i = aZ H1071 19 i).trans (m1074 i)
                  have m1082 : ∀ i, aZ H1078 17 i = aZ H 17 i := fun i => (by rw [eH1078, aZ_sA_nc (by first | with_reducible assumption | omega)] : aZ H1078 17 i = aZ H1071 17 i).trans (m1075 i)
                  have m1083 : kpM H H1078 := kpM_A m1076 eH1078 (by first | with_reducible assumption | omega)
                  refine g_nop ?_
                  refine g_iinc (l' := (fun v1084 => [(0, .ref 0), (1, .int a1), (2, .int v1084)])) rfl rfl (by decide) (by first | with_reducible assumption | omega) (fun _ => rfl) (fun v1084 ev1084 => ?_)
                  refine g_goto ?_
                  exact ihL1044 v1084 H1078 hIH1078 hJH1078 m1079 m1080 m1081 m1082 m1083 (by first | with_reducible assumption | omega) (by first | with_reducible assumption | omega)
                · refine g_goto ?_
                  refine g_iinc (l' := (fun v1085 => [(0, .ref 0), (1, .int a1), (2, .int v1085)])) rfl rfl (by decide) (by first | with_reducible assumption | omega) (fun _ => rfl) (fun v1085 ev1085 => ?_)
                  refine g_goto ?_
                  exact ihL1044 v1085 H1038 hIH1038 hJH1038 m1039 m1040 m1041 m1042 m1043 (by first | with_reducible assumption | omega) (by first | with_reducible assumption | omega)
          exact L1044 _ v1036 H1030 hIH1030 hJH1030 m1031 m1032 m1033 m1034 m1035 (by first | with_reducible assumption | omega) (Nat.lt_succ_self _)
      · refine g_aload_n rfl ?_
        refine g_gfr hIH967 sm_0 rfl ?_
        refine g_iload_n rfl ?_
        refine g_iload_n rfl ?_
        refine g_iload_n rfl ?_
        refine g_if2_eq (fun c1086 => ?_) (fun c1086 => ?_)
        · refine g_iconst (by decide) (fun v1087 kv1087 => ?_)
          refine g_goto ?_
          refine g_zastore hIH967 sm_21 (by first | with_reducible assumption | omega) (by first | with_reducible assumption | omega) (fun H1088 eH1088 hIH1088 => ?_)
          have hJH1088 : JM H1088 := JM_sA (by decide) eH1088 hJH967
          have m1089 : ∀ a f, fZ H1088 a f = fZ H a f := fun a f => (by rw [eH1088, fZ_sA] : fZ H1088 a f = fZ H967 a f).trans (m968 a f)
          have m1090 : ∀ i, aZ H1088 2 i = aZ H 2 i := fun i => (by rw [eH1088, aZ_sA_nc (by first | with_reducible assumption | omega)] : aZ H1088 2 i = aZ H967 2 i).trans (m969 i)
          have m1091 : ∀ i, aZ H1088 19 i = aZ H 19 i := fun i => (by rw [eH1088, aZ_sA_nc (by first | with_reducible assumption | omega)] : aZ H1088 19 i = aZ H967 19 i).trans (m970 i)
          have m1092 : ∀ i, aZ H1088 17 i = aZ H 17 i := fun i => (by rw [eH1088, aZ_sA_nc (by first | with_reducible assumption | omega)] : aZ H1088 17 i = aZ H967 17 i).trans (m971 i)
          have m1093 : kpM H H1088 := kpM_A m972 eH1088 (by first | with_reducible assumption | omega)
          refine g_iinc (l' := (fun v1094 => [(0, .ref 0), (1, .int a1), (2, .int v1094)])) rfl rfl (by decide) (by first | with_reducible assumption | omega) (fun _ => rfl) (fun v1094 ev1094 => ?_)
          refine g_goto ?_
          exact ihL973 v1094 H1088 hIH1088 hJH1088 m1089 m1090 m1091 m1092 m1093 (by first | with_reducible assumption | omega) (by first | with_reducible assumption | omega)
        · refine g_aload_n rfl ?_
          refine g_iload_n rfl ?_
          refine g_iload_n rfl ?_
          refine g_invvi hIH967 sm_0 rfl rfl rfl rfl (s_186 v966 (by first | with_reducible assumption | omega) a1 H967 hIH967 hJH967) (fun v1097 H1095 r1096 => ?_)
          obtain ⟨rfl, bv1097⟩ := r1096
          refine g_if_eq (fun c1098 => ?_) (fun c1098 => ?_)
          · refine g_iconst (by decide) (fun v1099 kv1099 => ?_)
            refine g_nop ?_
            refine g_zastore hIH967 sm_21 (by first | with_reducible assumption | omega) (by first | with_reducible assumption | omega) (fun H1100 eH1100 hIH1100 => ?_)
            have hJH1100 : JM H1100 := JM_sA (by decide) eH1100 hJH967
            have m1101 : ∀ a f, fZ H1100 a f = fZ H a f := fun a f => (by rw [eH1100, fZ_sA] : fZ H1100 a f = fZ H967 a f).trans (m968 a f)
            have m1102 : ∀ i, aZ H1100 2 i = aZ H 2 i := fun i => (by rw [eH1100, aZ_sA_nc (by first | with_reducible assumption | omega)] : aZ H1100 2 i = aZ H967 2 i).trans (m969 i)
            have m1103 : ∀ i, aZ H1100 19 i = aZ H 19 i := fun i => (by rw [eH1100, aZ_sA_nc (by first | with_reducible assumption | omega)] : aZ H1100 19 i = aZ H967 19 i).trans (m970 i)
            have m1104 : ∀ i, aZ H1100 17 i = aZ H 17 i := fun i => (by rw [eH1100, aZ_sA_nc (by first | with_reducible assumption | omega)] : aZ H1100 17 i = aZ H967 17 i).trans (m971 i)
            have m1105 : kpM H H1100 := kpM_A m972 eH1100 (by first | with_reducible assumption | omega)
            refine g_iinc (l' := (fun v1106 => [(0, .ref 0), (1, .int a1), (2, .int v1106)])) rfl rfl (by decide) (by first | with_reducible assumption | omega) (fun _ => rfl) (fun v1106 ev1106 => ?_)
            refine g_goto ?_
            exact ihL973 v1106 H1100 hIH1100 hJH1100 m1101 m1102 m1103 m1104 m1105 (by first | with_reducible assumption | omega) (by first | with_reducible assumption | omega)
          · refine g_nop ?_
            refine g_iconst (by decide) (fun v1107 kv1107 => ?_)
            refine g_goto ?_
            refine g_zastore hIH967 sm_21 (by first | with_reducible assumption | omega) (by first | with_reducible assumption | omega) (fun H1108 eH1108 hIH1108 => ?_)
            have hJH1108 : JM H1108 := JM_sA (by decide) eH1108 hJH967
            have m1109 : ∀ a f, fZ H1108 a f = fZ H a f := fun a f => (by rw [eH1108, fZ_sA] : fZ H1108 a f = fZ H967 a f).trans (m968 a f)
            have m1110 : ∀ i, aZ H1108 2 i = aZ H 2 i := fun i => (by rw [eH1108, aZ_sA_nc (by first | with_reducible assumption | omega)] : aZ H1108 2 i = aZ H967 2 i).trans (m969 i)
            have m1111 : ∀ i, aZ H1108 19 i = aZ H 19 i := fun i => (by rw [eH1108, aZ_sA_nc (by first | with_reducible assumption | omega)] : aZ H1108 19 i = aZ H967 19 i).trans (m970 i)
            have m1112 : ∀ i, aZ H1108 17 i = aZ H 17 i := fun i => (by rw [eH1108, aZ_sA_nc (by first | with_reducible assumption | omega)] : aZ H1108 17 i = aZ H967 17 i).trans (m971 i)
            have m1113 : kpM H H1108 := kpM_A m972 eH1108 (by first | with_reducible assumption | omega)
            refine g_iinc (l' := (fun v1114 => [(0, .ref 0), (1, .int a1), (2, .int v1114)])) rfl rfl (by decide) (by first | with_reducible assumption | omega) (fun _ => rfl) (fun v1114 ev1114 => ?_)
            refine g_goto ?_
            exact ihL973 v1114 H1108 hIH1108 hJH1108 m1109 m1110 m1111 m1112 m1113 (by first | with_reducible assumption | omega) (by first | with_reducible assumption | omega)
  exact L973 _ v965 H hI hJ mkF mk2 mk19 mk17 mkfr (by first | with_reducible assumption | omega) (Nat.lt_succ_self _)
set_option maxRecDepth 4000 in
set_option maxHeartbeats 4000000 in
/-- M.takes -/
theorem s_194 (a1 : Int32) (ha1 : 0 ≤ a1.toInt ∧ a1.toInt ≤ 10) (a2 : Int32) (ha2 : 0 ≤ a2.toInt ∧ a2.toInt ≤ 39) (a3 : Int32) (a4 : Int32) (a5 : Int32) (H : mzH) (hI : gI SM H) (hJ : JM H) (hp0 : (a1.toInt = 0 → (0 ≤ a3.toInt ∧ a3.toInt ≤ 7 ∧ 0 ≤ a5.toInt ∧ a5.toInt ≤ 2))) (hp1 : ((a1.toInt = 5 ∨ a1.toInt = 6 ∨ a1.toInt = 8) → (0 ≤ a3.toInt ∧ a3.toInt ≤ 7))) (hp2 : (a1.toInt = 1 → (0 ≤ a3.toInt ∧ a3.toInt ≤ 39))) (hp3 : RS H a1 a2 a3) : gCall 194 [.ref 0, .int a1, .int a2, .int a3, .int a4, .int a5] H (gRv (fun H' => gI SM H' ∧ JM H' ∧ (∀ a f, fZ H' a f = fZ H a f) ∧ (∀ i, aZ H' 2 i = aZ H 2 i) ∧ (∀ i, aZ H' 19 i = aZ H 19 i) ∧ (∀ i, aZ H' 17 i = aZ H 17 i) ∧ kpM H H')) := by
  have mkF : ∀ a f, fZ H a f = fZ H a f := fun _ _ => rfl
  have mk2 : ∀ i, aZ H 2 i = aZ H 2 i := fun _ => rfl
  have mk19 : ∀ i, aZ H 19 i = aZ H 19 i := fun _ => rfl
  have mk17 : ∀ i, aZ H 17 i = aZ H 17 i := fun _ => rfl
  have mkfr : kpM H H := kpM_r
  refine gG_call [(0, .ref 0), (1, .int a1), (2, .int a2), (3, .int a3), (4, .int a4), (5, .int a5)] ⟨rfl, rfl, rfl, rfl, rfl, rfl, trivial⟩ ?_
  show gG 6 zB_194 (mzBlk zB_194 0) [(0, .ref 0), (1, .int a1), (2, .int a2), (3, .int a3), (4, .int a4), (5, .int a5)] [] H 0 0 _
  refine g_iload_n rfl ?_
  refine g_sw (by decide) (fun c525 => ?_) ⟨fun c525 => ?_, fun c525 => ?_, fun c525 => ?_, fun c525 => ?_, fun c525 => ?_, fun c525 => ?_, fun c525 => ?_, fun c525 => ?_, fun c525 => ?_, fun c525 => ?_, trivial⟩
  · refine g_aload_n rfl ?_
    refine g_gfr hI sm_0 rfl ?_
    refine g_iload_n rfl ?_
    refine g_iconst (by decide) (fun v526 kv526 => ?_)
    refine g_zastore hI sm_14 (by first | with_reducible assumption | omega) (by first | with_reducible assumption | omega) (fun H527 eH527 hIH527 => ?_)
    have hJH527 : JM H527 := JM_sA (by decide) eH527 hJ
    have m528 : ∀ a f, fZ H527 a f = fZ H a f := fun a f => (by rw [eH527, fZ_sA] : fZ H527 a f = fZ H a f).trans (mkF a f)
    have m529 : ∀ i, aZ H527 2 i = aZ H 2 i := fun i => (by rw [eH527, aZ_sA_nc (by first | with_reducible assumption | omega)] : aZ H527 2 i = aZ H 2 i).trans (mk2 i)
    have m530 : ∀ i, aZ H527 19 i = aZ H 19 i := fun i => (by rw [eH527, aZ_sA_nc (by first | with_reducible assumption | omega)] : aZ H527 19 i = aZ H 19 i).trans (mk19 i)
    have m531 : ∀ i, aZ H527 17 i = aZ H 17 i := fun i => (by rw [eH527, aZ_sA_nc (by first | with_reducible assumption | omega)] : aZ H527 17 i = aZ H 17 i).trans (mk17 i)
    have m532 : kpM H H527 := kpM_A mkfr eH527 (by first | with_reducible assumption | omega)
    refine g_nop ?_
    exact g_ret ⟨rfl, hIH527, hJH527, m528, m529, m530, m531, m532⟩
  · refine g_aload_n rfl ?_
    refine g_gfr hI sm_0 rfl ?_
    refine g_iload_n rfl ?_
    refine g_iconst (by decide) (fun v533 kv533 => ?_)
    refine g_zastore hI sm_7 (by first | with_reducible assumption | omega) (by first | with_reducible assumption | omega) (fun H534 eH534 hIH534 => ?_)
    have hJH534 : JM H534 := JM_mk1 hI hJ (by first | with_reducible assumption | omega) eH534
    have m535 : ∀ a f, fZ H534 a f = fZ H a f := fun a f => (by rw [eH534, fZ_sA] : fZ H534 a f = fZ H a f).trans (mkF a f)
    have m536 : ∀ i, aZ H534 2 i = aZ H 2 i := fun i => (by rw [eH534, aZ_sA_nc (by first | with_reducible assumption | omega)] : aZ H534 2 i = aZ H 2 i).trans (mk2 i)
    have m537 : ∀ i, aZ H534 19 i = aZ H 19 i := fun i => (by rw [eH534, aZ_sA_nc (by first | with_reducible assumption | omega)] : aZ H534 19 i = aZ H 19 i).trans (mk19 i)
    have m538 : ∀ i, aZ H534 17 i = aZ H 17 i := fun i => (by rw [eH534, aZ_sA_nc (by first | with_reducible assumption | omega)] : aZ H534 17 i = aZ H 17 i).trans (mk17 i)
    have m539 : kpM H H534 := kpM_A mkfr eH534 (by first | with_reducible assumption | omega)
    refine g_aload_n rfl ?_
    refine g_gfr hIH534 sm_0 rfl ?_
    refine g_iload_n rfl ?_
    refine g_iload rfl ?_
    refine g_iastore hIH534 sm_8 (by first | with_reducible assumption | omega) (by first | with_reducible assumption | omega) (fun H540 eH540 hIH540 => ?_)
    have hJH540 : JM H540 := JM_mk2 hI hIH534 hJ (by first | with_reducible assumption | omega) (hp3.1 (by first | with_reducible assumption | omega)) (by first | with_reducible assumption | omega) eH534 eH540
    have m541 : ∀ a f, fZ H540 a f = fZ H a f := fun a f => (by rw [eH540, fZ_sA] : fZ H540 a f = fZ H534 a f).trans (m535 a f)
    have m542 : ∀ i, aZ H540 2 i = aZ H 2 i := fun i => (by rw [eH540, aZ_sA_nc (by first | with_reducible assumption | omega)] : aZ H540 2 i = aZ H534 2 i).trans (m536 i)
    have m543 : ∀ i, aZ H540 19 i = aZ H 19 i := fun i => (by rw [eH540, aZ_sA_nc (by first | with_reducible assumption | omega)] : aZ H540 19 i = aZ H534 19 i).trans (m537 i)
    have m544 : ∀ i, aZ H540 17 i = aZ H 17 i := fun i => (by rw [eH540, aZ_sA_nc (by first | with_reducible assumption | omega)] : aZ H540 17 i = aZ H534 17 i).trans (m538 i)
    have m545 : kpM H H540 := kpM_A m539 eH540 (by first | with_reducible assumption | omega)
    refine g_aload_n rfl ?_
    refine g_iload_n rfl ?_
    refine g_iload_n rfl ?_
    refine g_iload rfl ?_
    refine g_invvv hIH540 sm_0 rfl rfl rfl rfl (s_193 a2 (by first | with_reducible assumption | omega) a3 (by first | with_reducible assumption | omega) a4 H540 hIH540 hJH540) (fun H546 r547 => ?_)
    obtain ⟨hIH546, hJH546, m548, m549, m550, m551, m552⟩ := r547
    have m553 : ∀ a f, fZ H546 a f = fZ H a f := fun a f => (m548 a f).trans (m541 a f)
    have m554 : ∀ i, aZ H546 2 i = aZ H 2 i := fun i => (m549 i).trans (m542 i)
    have m555 : ∀ i, aZ H546 19 i = aZ H 19 i := fun i => (m550 i).trans (m543 i)
    have m556 : ∀ i, aZ H546 17 i = aZ H 17 i := fun i => (m551 i).trans (m544 i)
    have m557 : kpM H H546 := kpM_t m545 m552
    refine g_goto ?_
    exact g_ret ⟨rfl, hIH546, hJH546, m553, m554, m555, m556, m557⟩
  · refine g_aload_n rfl ?_
    refine g_gfr hI sm_0 rfl ?_
    refine g_iload_n rfl ?_
    refine g_iload_n rfl ?_
    refine g_iastore hI sm_9 (by first | with_reducible assumption | omega) (by first | with_reducible assumption | omega) (fun H558 eH558 hIH558 => ?_)
    have hJH558 : JM H558 := JM_pack hI hJ (by first | with_reducible assumption | omega) (by first | with_reducible assumption | omega) (hp3.2.2 (by first | with_reducible assumption | omega)) eH558
    have m559 : ∀ a f, fZ H558 a f = fZ H a f := fun a f => (by rw [eH558, fZ_sA] : fZ H558 a f = fZ H a f).trans (mkF a f)
    have m560 : ∀ i, aZ H558 2 i = aZ H 2 i := fun i => (by rw [eH558, aZ_sA_nc (by first | with_reducible assumption | omega)] : aZ H558 2 i = aZ H 2 i).trans (mk2 i)
    have m561 : ∀ i, aZ H558 19 i = aZ H 19 i := fun i => (by rw [eH558, aZ_sA_nc (by first | with_reducible assumption | omega)] : aZ H558 19 i = aZ H 19 i).trans (mk19 i)
    have m562 : ∀ i, aZ H558 17 i = aZ H 17 i := fun i => (by rw [eH558, aZ_sA_nc (by first | with_reducible assumption | omega)] : aZ H558 17 i = aZ H 17 i).trans (mk17 i)
    have m563 : kpM H H558 := kpM_A mkfr eH558 (by first | with_reducible assumption | omega)
    refine g_goto ?_
    exact g_ret ⟨rfl, hIH558, hJH558, m559, m560, m561, m562, m563⟩
  · refine g_aload_n rfl ?_
    refine g_iload_n rfl ?_
    refine g_aload_n rfl ?_
    refine g_gfr hI sm_0 rfl ?_
    refine g_aload_n rfl ?_
    refine g_iload_n rfl ?_
    refine g_invvi hI sm_0 rfl rfl rfl rfl (s_185 a2 (by first | with_reducible assumption | omega) H hI hJ) (fun v566 H564 r565 => ?_)
    obtain ⟨rfl, bv566⟩ := r565
    refine g_iaload hI sm_10 rfl (by first | with_reducible assumption | omega) (fun v567 ev567 lv567 uv567 => ?_)
    refine g_iload rfl ?_
    refine g_invvv hI sm_0 rfl rfl rfl rfl (s_195 a2 (by first | with_reducible assumption | omega) v567 (by first | with_reducible assumption | omega) a4 H hI hJ (hp3.2.1 (by first | with_reducible assumption | omega))) (fun H568 r569 => ?_)
    obtain ⟨hIH568, hJH568, m570, m571, m572, m573, m574⟩ := r569
    have m575 : ∀ a f, fZ H568 a f = fZ H a f := fun a f => (m570 a f).trans (mkF a f)
    have m576 : ∀ i, aZ H568 2 i = aZ H 2 i := fun i => (m571 i).trans (mk2 i)
    have m577 : ∀ i, aZ H568 19 i = aZ H 19 i := fun i => (m572 i).trans (mk19 i)
    have m578 : ∀ i, aZ H568 17 i = aZ H 17 i := fun i => (m573 i).trans (mk17 i)
    have m579 : kpM H H568 := kpM_t mkfr m574
    refine g_goto ?_
    exact g_ret ⟨rfl, hIH568, hJH568, m575, m576, m577, m578, m579⟩
  · refine g_aload_n rfl ?_
    refine g_gfr hI sm_0 rfl ?_
    refine g_iload_n rfl ?_
    refine g_iconst (by decide) (fun v580 kv580 => ?_)
    refine g_zastore hI sm_13 (by first | with_reducible assumption | omega) (by first | with_reducible assumption | omega) (fun H581 eH581 hIH581 => ?_)
    have hJH581 : JM H581 := JM_sA (by decide) eH581 hJ
    have m582 : ∀ a f, fZ H581 a f = fZ H a f := fun a f => (by rw [eH581, fZ_sA] : fZ H581 a f = fZ H a f).trans (mkF a f)
    have m583 : ∀ i, aZ H581 2 i = aZ H 2 i := fun i => (by rw [eH581, aZ_sA_nc (by first | with_reducible assumption | omega)] : aZ H581 2 i = aZ H 2 i).trans (mk2 i)
    have m584 : ∀ i, aZ H581 19 i = aZ H 19 i := fun i => (by rw [eH581, aZ_sA_nc (by first | with_reducible assumption | omega)] : aZ H581 19 i = aZ H 19 i).trans (mk19 i)
    have m585 : ∀ i, aZ H581 17 i = aZ H 17 i := fun i => (by rw [eH581, aZ_sA_nc (by first | with_reducible assumption | omega)] : aZ H581 17 i = aZ H 17 i).trans (mk17 i)
    have m586 : kpM H H581 := kpM_A mkfr eH581 (by first | with_reducible assumption | omega)
    refine g_goto ?_
    exact g_ret ⟨rfl, hIH581, hJH581, m582, m583, m584, m585, m586⟩
  · refine g_aload_n rfl ?_
    refine g_gfr hI sm_0 rfl ?_
    refine g_iload_n rfl ?_
    refine g_iconst (by decide) (fun v587 kv587 => ?_)
    refine g_zastore hI sm_13 (by first | with_reducible assumption | omega) (by first | with_reducible assumption | omega) (fun H588 eH588 hIH588 => ?_)
    have hJH588 : JM H588 := JM_sA (by decide) eH588 hJ
    have m589 : ∀ a f, fZ H588 a f = fZ H a f := fun a f => (by rw [eH588, fZ_sA] : fZ H588 a f = fZ H a f).trans (mkF a f)
    have m590 : ∀ i, aZ H588 2 i = aZ H 2 i := fun i => (by rw [eH588, aZ_sA_nc (by first | with_reducible assumption | omega)] : aZ H588 2 i = aZ H 2 i).trans (mk2 i)
    have m591 : ∀ i, aZ H588 19 i = aZ H 19 i := fun i => (by rw [eH588, aZ_sA_nc (by first | with_reducible assumption | omega)] : aZ H588 19 i = aZ H 19 i).trans (mk19 i)
    have m592 : ∀ i, aZ H588 17 i = aZ H 17 i := fun i => (by rw [eH588, aZ_sA_nc (by first | with_reducible assumption | omega)] : aZ H588 17 i = aZ H 17 i).trans (mk17 i)
    have m593 : kpM H H588 := kpM_A mkfr eH588 (by first | with_reducible assumption | omega)
    refine g_goto ?_
    exact g_ret ⟨rfl, hIH588, hJH588, m589, m590, m591, m592, m593⟩
  · refine g_aload_n rfl ?_
    refine g_iload_n rfl ?_
    refine g_iload_n rfl ?_
    refine g_iload rfl ?_
    refine g_invvv hI sm_0 rfl rfl rfl rfl (s_193 a2 (by first | with_reducible assumption | omega) a3 (by first | with_reducible assumption | omega) a4 H hI hJ) (fun H594 r595 => ?_)
    obtain ⟨hIH594, hJH594, m596, m597, m598, m599, m600⟩ := r595
    have m601 : ∀ a f, fZ H594 a f = fZ H a f := fun a f => (m596 a f).trans (mkF a f)
    have m602 : ∀ i, aZ H594 2 i = aZ H 2 i := fun i => (m597 i).trans (mk2 i)
    have m603 : ∀ i, aZ H594 19 i = aZ H 19 i := fun i => (m598 i).trans (mk19 i)
    have m604 : ∀ i, aZ H594 17 i = aZ H 17 i := fun i => (m599 i).trans (mk17 i)
    have m605 : kpM H H594 := kpM_t mkfr m600
    refine g_goto ?_
    exact g_ret ⟨rfl, hIH594, hJH594, m601, m602, m603, m604, m605⟩
  · refine g_aload_n rfl ?_
    refine g_iload_n rfl ?_
    refine g_iload_n rfl ?_
    refine g_iload rfl ?_
    refine g_invvv hI sm_0 rfl rfl rfl rfl (s_196 a2 (by first | with_reducible assumption | omega) a3 (by first | with_reducible assumption | omega) a4 H hI hJ) (fun H606 r607 => ?_)
    obtain ⟨hIH606, hJH606, m608, m609, m610, m611, m612⟩ := r607
    have m613 : ∀ a f, fZ H606 a f = fZ H a f := fun a f => (m608 a f).trans (mkF a f)
    have m614 : ∀ i, aZ H606 2 i = aZ H 2 i := fun i => (m609 i).trans (mk2 i)
    have m615 : ∀ i, aZ H606 19 i = aZ H 19 i := fun i => (m610 i).trans (mk19 i)
    have m616 : ∀ i, aZ H606 17 i = aZ H 17 i := fun i => (m611 i).trans (mk17 i)
    have m617 : kpM H H606 := kpM_t mkfr m612
    refine g_goto ?_
    exact g_ret ⟨rfl, hIH606, hJH606, m613, m614, m615, m616, m617⟩
  · refine g_aload_n rfl ?_
    refine g_gfr hI sm_0 rfl ?_
    refine g_iload_n rfl ?_
    refine g_iconst (by decide) (fun v618 kv618 => ?_)
    refine g_zastore hI sm_15 (by first | with_reducible assumption | omega) (by first | with_reducible assumption | omega) (fun H619 eH619 hIH619 => ?_)
    have hJH619 : JM H619 := JM_sA (by decide) eH619 hJ
    have m620 : ∀ a f, fZ H619 a f = fZ H a f := fun a f => (by rw [eH619, fZ_sA] : fZ H619 a f = fZ H a f).trans (mkF a f)
    have m621 : ∀ i, aZ H619 2 i = aZ H 2 i := fun i => (by rw [eH619, aZ_sA_nc (by first | with_reducible assumption | omega)] : aZ H619 2 i = aZ H 2 i).trans (mk2 i)
    have m622 : ∀ i, aZ H619 19 i = aZ H 19 i := fun i => (by rw [eH619, aZ_sA_nc (by first | with_reducible assumption | omega)] : aZ H619 19 i = aZ H 19 i).trans (mk19 i)
    have m623 : ∀ i, aZ H619 17 i = aZ H 17 i := fun i => (by rw [eH619, aZ_sA_nc (by first | with_reducible assumption | omega)] : aZ H619 17 i = aZ H 17 i).trans (mk17 i)
    have m624 : kpM H H619 := kpM_A mkfr eH619 (by first | with_reducible assumption | omega)
    refine g_goto ?_
    exact g_ret ⟨rfl, hIH619, hJH619, m620, m621, m622, m623, m624⟩
  · refine g_aload_n rfl ?_
    refine g_gfr hI sm_0 rfl ?_
    refine g_iload_n rfl ?_
    refine g_iconst (by decide) (fun v625 kv625 => ?_)
    refine g_zastore hI sm_15 (by first | with_reducible assumption | omega) (by first | with_reducible assumption | omega) (fun H626 eH626 hIH626 => ?_)
    have hJH626 : JM H626 := JM_sA (by decide) eH626 hJ
    have m627 : ∀ a f, fZ H626 a f = fZ H a f := fun a f => (by rw [eH626, fZ_sA] : fZ H626 a f = fZ H a f).trans (mkF a f)
    have m628 : ∀ i, aZ H626 2 i = aZ H 2 i := fun i => (by rw [eH626, aZ_sA_nc (by first | with_reducible assumption | omega)] : aZ H626 2 i = aZ H 2 i).trans (mk2 i)
    have m629 : ∀ i, aZ H626 19 i = aZ H 19 i := fun i => (by rw [eH626, aZ_sA_nc (by first | with_reducible assumption | omega)] : aZ H626 19 i = aZ H 19 i).trans (mk19 i)
    have m630 : ∀ i, aZ H626 17 i = aZ H 17 i := fun i => (by rw [eH626, aZ_sA_nc (by first | with_reducible assumption | omega)] : aZ H626 17 i = aZ H 17 i).trans (mk17 i)
    have m631 : kpM H H626 := kpM_A mkfr eH626 (by first | with_reducible assumption | omega)
    refine g_aload_n rfl ?_
    refine g_iload_n rfl ?_
    refine g_iload_n rfl ?_
    refine g_iload rfl ?_
    refine g_invvv hIH626 sm_0 rfl rfl rfl rfl (s_193 a2 (by first | with_reducible assumption | omega) a3 (by first | with_reducible assumption | omega) a4 H626 hIH626 hJH626) (fun H632 r633 => ?_)
    obtain ⟨hIH632, hJH632, m634, m635, m636, m637, m638⟩ := r633
    have m639 : ∀ a f, fZ H632 a f = fZ H a f := fun a f => (m634 a f).trans (m627 a f)
    have m640 : ∀ i, aZ H632 2 i = aZ H 2 i := fun i => (m635 i).trans (m628 i)
    have m641 : ∀ i, aZ H632 19 i = aZ H 19 i := fun i => (m636 i).trans (m629 i)
    have m642 : ∀ i, aZ H632 17 i = aZ H 17 i := fun i => (m637 i).trans (m630 i)
    have m643 : kpM H H632 := kpM_t m631 m638
    refine g_goto ?_
    exact g_ret ⟨rfl, hIH632, hJH632, m639, m640, m641, m642, m643⟩
  · refine g_aload_n rfl ?_
    refine g_iload_n rfl ?_
    refine g_invvv hI sm_0 rfl rfl rfl rfl (s_197 a2 (by first | with_reducible assumption | omega) H hI hJ) (fun H644 r645 => ?_)
    obtain ⟨hIH644, hJH644, m646, m647, m648, m649, m650⟩ := r645
    have m651 : ∀ a f, fZ H644 a f = fZ H a f := fun a f => (m646 a f).trans (mkF a f)
    have m652 : ∀ i, aZ H644 2 i = aZ H 2 i := fun i => (m647 i).trans (mk2 i)
    have m653 : ∀ i, aZ H644 19 i = aZ H 19 i := fun i => (m648 i).trans (mk19 i)
    have m654 : ∀ i, aZ H644 17 i = aZ H 17 i := fun i => (m649 i).trans (mk17 i)
    have m655 : kpM H H644 := kpM_t mkfr m650
    refine g_goto ?_
    exact g_ret ⟨rfl, hIH644, hJH644, m651, m652, m653, m654, m655⟩
set_option maxRecDepth 4000 in
set_option maxHeartbeats 4000000 in
/-- M.looks -/
theorem s_192 (a1 : Int32) (ha1 : 0 ≤ a1.toInt ∧ a1.toInt ≤ 59) (H : mzH) (hI : gI SM H) (hJ : JM H) : gCall 192 [.ref 0, .int a1] H (gRv (fun H' => gI SM H' ∧ JM H' ∧ (∀ a f, fZ H' a f = fZ H a f) ∧ (∀ i, aZ H' 2 i = aZ H 2 i) ∧ (∀ i, aZ H' 19 i = aZ H 19 i) ∧ (∀ i, aZ H' 17 i = aZ H 17 i) ∧ kpM H H')) := by
  have mkF : ∀ a f, fZ H a f = fZ H a f := fun _ _ => rfl
  have mk2 : ∀ i, aZ H 2 i = aZ H 2 i := fun _ => rfl
  have mk19 : ∀ i, aZ H 19 i = aZ H 19 i := fun _ => rfl
  have mk17 : ∀ i, aZ H 17 i = aZ H 17 i := fun _ => rfl
  have mkfr : kpM H H := kpM_r
  have mk7 : ∀ i, aZ H 7 i = aZ H 7 i := fun _ => rfl
  have mk8 : ∀ i, aZ H 8 i = aZ H 8 i := fun _ => rfl
  have mk9 : ∀ i, aZ H 9 i = aZ H 9 i := fun _ => rfl
  refine gG_call [(0, .ref 0), (1, .int a1)] ⟨rfl, rfl, trivial⟩ ?_
  show gG 4 zB_192 (mzBlk zB_192 0) [(0, .ref 0), (1, .int a1)] [] H 0 0 _
  refine g_aload_n rfl ?_
  refine g_gfr hI sm_0 rfl ?_
  refine g_iload_n rfl ?_
  refine g_aload_n rfl ?_
  refine g_iload_n rfl ?_
  refine g_invvi hI sm_0 rfl rfl rfl rfl (s_191 a1 (by first | with_reducible assumption | omega) H hI hJ) (fun v359 H357 r358 => ?_)
  obtain ⟨rfl, p360⟩ := r358
  refine g_iastore hI sm_20 (by first | with_reducible assumption | omega) (gz_any _) (fun H361 eH361 hIH361 => ?_)
  have hJH361 : JM H361 := JM_sA (by decide) eH361 hJ
  have m362 : ∀ a f, fZ H361 a f = fZ H a f := fun a f => (by rw [eH361, fZ_sA] : fZ H361 a f = fZ H a f).trans (mkF a f)
  have m363 : ∀ i, aZ H361 2 i = aZ H 2 i := fun i => (by rw [eH361, aZ_sA_nc (by first | with_reducible assumption | omega)] : aZ H361 2 i = aZ H 2 i).trans (mk2 i)
  have m364 : ∀ i, aZ H361 19 i = aZ H 19 i := fun i => (by rw [eH361, aZ_sA_nc (by first | with_reducible assumption | omega)] : aZ H361 19 i = aZ H 19 i).trans (mk19 i)
  have m365 : ∀ i, aZ H361 17 i = aZ H 17 i := fun i => (by rw [eH361, aZ_sA_nc (by first | with_reducible assumption | omega)] : aZ H361 17 i = aZ H 17 i).trans (mk17 i)
  have m366 : kpM H H361 := kpM_A mkfr eH361 (by first | with_reducible assumption | omega)
  have m367 : ∀ i, aZ H361 7 i = aZ H 7 i := fun i => (by rw [eH361, aZ_sA_nc (by first | with_reducible assumption | omega)] : aZ H361 7 i = aZ H 7 i).trans (mk7 i)
  have m368 : ∀ i, aZ H361 8 i = aZ H 8 i := fun i => (by rw [eH361, aZ_sA_nc (by first | with_reducible assumption | omega)] : aZ H361 8 i = aZ H 8 i).trans (mk8 i)
  have m369 : ∀ i, aZ H361 9 i = aZ H 9 i := fun i => (by rw [eH361, aZ_sA_nc (by first | with_reducible assumption | omega)] : aZ H361 9 i = aZ H 9 i).trans (mk9 i)
  have e370 : v359 = aZ H361 20 a1.toInt.toNat := by rw [eH361, aZ_sA_eq hI sm_20 (by first | with_reducible assumption | omega)]
  refine g_aload_n rfl ?_
  refine g_iload_n rfl ?_
  refine g_iconst (by decide) (fun v371 kv371 => ?_)
  refine g_invvi hIH361 sm_0 rfl rfl rfl rfl (s_181 a1 (by first | with_reducible assumption | omega) v371 (by first | with_reducible assumption | omega) H361 hIH361 (JM_n hJH361)) (fun v374 H372 r373 => ?_)
  obtain ⟨rfl, p375⟩ := r373
  have tv374 : v374 = aZ H361 2 (69 + 5 * a1.toInt + 1).toNat := by rw [p375, kv371]
  have qv374 := JN_w1 (JM_n hJH361) (by first | with_reducible assumption | omega) tv374
  refine g_istore_n (l' := [(0, .ref 0), (1, .int a1), (2, .int v374)]) rfl rfl ?_
  refine g_aload_n rfl ?_
  refine g_iload_n rfl ?_
  refine g_iconst (by decide) (fun v376 kv376 => ?_)
  refine g_invvi hIH361 sm_0 rfl rfl rfl rfl (s_181 a1 (by first | with_reducible assumption | omega) v376 (by first | with_reducible assumption | omega) H361 hIH361 (JM_n hJH361)) (fun v379 H377 r378 => ?_)
  obtain ⟨rfl, p380⟩ := r378
  have tv379 : v379 = aZ H361 2 (69 + 5 * a1.toInt + 2).toNat := by rw [p380, kv376]
  have qv379 := JN_w2 (JM_n hJH361) (by first | with_reducible assumption | omega) tv379
  refine g_istore_n (l' := [(0, .ref 0), (1, .int a1), (2, .int v374), (3, .int v379)]) rfl rfl ?_
  refine g_aload_n rfl ?_
  refine g_gfr hIH361 sm_0 rfl ?_
  refine g_iload_n rfl ?_
  refine g_ialoadk hIH361 sm_20 rfl (by first | with_reducible assumption | omega) e370 ?_
  refine g_if_ne (fun c381 => ?_) (fun c381 => ?_)
  · refine g_iload_n rfl ?_
    refine g_if_ne (fun c382 => ?_) (fun c382 => ?_)
    · refine g_iload_n rfl ?_
      refine g_bipush (by decide) (fun v383 kv383 => ?_)
      refine g_if2_ne (fun c384 => ?_) (fun c384 => ?_)
      · exact g_ret ⟨rfl, hIH361, hJH361, m362, m363, m364, m365, m366⟩
      · refine g_aload_n rfl ?_
        refine g_gfr hIH361 sm_0 rfl ?_
        refine g_iload_n rfl ?_
        refine g_ialoadk hIH361 sm_20 rfl (by first | with_reducible assumption | omega) e370 ?_
        refine g_bipush (by decide) (fun v385 kv385 => ?_)
        refine g_if2_eq (fun c386 => ?_) (fun c386 => ?_)
        · refine g_aload_n rfl ?_
          refine g_gfr hIH361 sm_0 rfl ?_
          refine g_iload_n rfl ?_
          refine g_iconst (by decide) (fun v387 kv387 => ?_)
          refine g_zastore hIH361 sm_14 (by first | with_reducible assumption | omega) (by first | with_reducible assumption | omega) (fun H388 eH388 hIH388 => ?_)
          have hJH388 : JM H388 := JM_sA (by decide) eH388 hJH361
          have m389 : ∀ a f, fZ H388 a f = fZ H a f := fun a f => (by rw [eH388, fZ_sA] : fZ H388 a f = fZ H361 a f).trans (m362 a f)
          have m390 : ∀ i, aZ H388 2 i = aZ H 2 i := fun i => (by rw [eH388, aZ_sA_nc (by first | with_reducible assumption | omega)] : aZ H388 2 i = aZ H361 2 i).trans (m363 i)
          have m391 : ∀ i, aZ H388 19 i = aZ H 19 i := fun i => (by rw [eH388, aZ_sA_nc (by first | with_reducible assumption | omega)] : aZ H388 19 i = aZ H361 19 i).trans (m364 i)
          have m392 : ∀ i, aZ H388 17 i = aZ H 17 i := fun i => (by rw [eH388, aZ_sA_nc (by first | with_reducible assumption | omega)] : aZ H388 17 i = aZ H361 17 i).trans (m365 i)
          have m393 : kpM H H388 := kpM_A m366 eH388 (by first | with_reducible assumption | omega)
          have m394 : ∀ i, aZ H388 7 i = aZ H 7 i := fun i => (by rw [eH388, aZ_sA_nc (by first | with_reducible assumption | omega)] : aZ H388 7 i = aZ H361 7 i).trans (m367 i)
          have m395 : ∀ i, aZ H388 8 i = aZ H 8 i := fun i => (by rw [eH388, aZ_sA_nc (by first | with_reducible assumption | omega)] : aZ H388 8 i = aZ H361 8 i).trans (m368 i)
          have m396 : ∀ i, aZ H388 9 i = aZ H 9 i := fun i => (by rw [eH388, aZ_sA_nc (by first | with_reducible assumption | omega)] : aZ H388 9 i = aZ H361 9 i).trans (m369 i)
          refine g_nop ?_
          exact g_ret ⟨rfl, hIH388, hJH388, m389, m390, m391, m392, m393⟩
        · refine g_aload_n rfl ?_
          refine g_gfr hIH361 sm_0 rfl ?_
          refine g_iload_n rfl ?_
          refine g_ialoadk hIH361 sm_20 rfl (by first | with_reducible assumption | omega) e370 ?_
          refine g_bipush (by decide) (fun v397 kv397 => ?_)
          refine g_if2_ne (fun c398 => ?_) (fun c398 => ?_)
          · exact g_ret ⟨rfl, hIH361, hJH361, m362, m363, m364, m365, m366⟩
          · refine g_nop ?_
            refine g_aload_n rfl ?_
            refine g_gfr hIH361 sm_0 rfl ?_
            refine g_iload_n rfl ?_
            refine g_iconst (by decide) (fun v399 kv399 => ?_)
            refine g_zastore hIH361 sm_14 (by first | with_reducible assumption | omega) (by first | with_reducible assumption | omega) (fun H400 eH400 hIH400 => ?_)
            have hJH400 : JM H400 := JM_sA (by decide) eH400 hJH361
            have m401 : ∀ a f, fZ H400 a f = fZ H a f := fun a f => (by rw [eH400, fZ_sA] : fZ H400 a f = fZ H361 a f).trans (m362 a f)
            have m402 : ∀ i, aZ H400 2 i = aZ H 2 i := fun i => (by rw [eH400, aZ_sA_nc (by first | with_reducible assumption | omega)] : aZ H400 2 i = aZ H361 2 i).trans (m363 i)
            have m403 : ∀ i, aZ H400 19 i = aZ H 19 i := fun i => (by rw [eH400, aZ_sA_nc (by first | with_reducible assumption | omega)] : aZ H400 19 i = aZ H361 19 i).trans (m364 i)
            have m404 : ∀ i, aZ H400 17 i = aZ H 17 i := fun i => (by rw [eH400, aZ_sA_nc (by first | with_reducible assumption | omega)] : aZ H400 17 i = aZ H361 17 i).trans (m365 i)
            have m405 : kpM H H400 := kpM_A m366 eH400 (by first | with_reducible assumption | omega)
            have m406 : ∀ i, aZ H400 7 i = aZ H 7 i := fun i => (by rw [eH400, aZ_sA_nc (by first | with_reducible assumption | omega)] : aZ H400 7 i = aZ H361 7 i).trans (m367 i)
            have m407 : ∀ i, aZ H400 8 i = aZ H 8 i := fun i => (by rw [eH400, aZ_sA_nc (by first | with_reducible assumption | omega)] : aZ H400 8 i = aZ H361 8 i).trans (m368 i)
            have m408 : ∀ i, aZ H400 9 i = aZ H 9 i := fun i => (by rw [eH400, aZ_sA_nc (by first | with_reducible assumption | omega)] : aZ H400 9 i = aZ H361 9 i).trans (m369 i)
            refine g_nop ?_
            exact g_ret ⟨rfl, hIH400, hJH400, m401, m402, m403, m404, m405⟩
    · refine g_aload_n rfl ?_
      refine g_gfr hIH361 sm_0 rfl ?_
      refine g_iload_n rfl ?_
      refine g_baload hIH361 sm_16 rfl (by first | with_reducible assumption | omega) (fun v409 ev409 lv409 uv409 => ?_)
      refine g_if_eq (fun c410 => ?_) (fun c410 => ?_)
      · refine g_aload_n rfl ?_
        refine g_gfr hIH361 sm_0 rfl ?_
        refine g_iload_n rfl ?_
        refine g_iconst (by decide) (fun v411 kv411 => ?_)
        refine g_zastore hIH361 sm_14 (by first | with_reducible assumption | omega) (by first | with_reducible assumption | omega) (fun H412 eH412 hIH412 => ?_)
        have hJH412 : JM H412 := JM_sA (by decide) eH412 hJH361
        have m413 : ∀ a f, fZ H412 a f = fZ H a f := fun a f => (by rw [eH412, fZ_sA] : fZ H412 a f = fZ H361 a f).trans (m362 a f)
        have m414 : ∀ i, aZ H412 2 i = aZ H 2 i := fun i => (by rw [eH412, aZ_sA_nc (by first | with_reducible assumption | omega)] : aZ H412 2 i = aZ H361 2 i).trans (m363 i)
        have m415 : ∀ i, aZ H412 19 i = aZ H 19 i := fun i => (by rw [eH412, aZ_sA_nc (by first | with_reducible assumption | omega)] : aZ H412 19 i = aZ H361 19 i).trans (m364 i)
        have m416 : ∀ i, aZ H412 17 i = aZ H 17 i := fun i => (by rw [eH412, aZ_sA_nc (by first | with_reducible assumption | omega)] : aZ H412 17 i = aZ H361 17 i).trans (m365 i)
        have m417 : kpM H H412 := kpM_A m366 eH412 (by first | with_reducible assumption | omega)
        have m418 : ∀ i, aZ H412 7 i = aZ H 7 i := fun i => (by rw [eH412, aZ_sA_nc (by first | with_reducible assumption | omega)] : aZ H412 7 i = aZ H361 7 i).trans (m367 i)
        have m419 : ∀ i, aZ H412 8 i = aZ H 8 i := fun i => (by rw [eH412, aZ_sA_nc (by first | with_reducible assumption | omega)] : aZ H412 8 i = aZ H361 8 i).trans (m368 i)
        have m420 : ∀ i, aZ H412 9 i = aZ H 9 i := fun i => (by rw [eH412, aZ_sA_nc (by first | with_reducible assumption | omega)] : aZ H412 9 i = aZ H361 9 i).trans (m369 i)
        refine g_nop ?_
        exact g_ret ⟨rfl, hIH412, hJH412, m413, m414, m415, m416, m417⟩
      · refine g_nop ?_
        refine g_iload_n rfl ?_
        refine g_bipush (by decide) (fun v421 kv421 => ?_)
        refine g_if2_ne (fun c422 => ?_) (fun c422 => ?_)
        · exact g_ret ⟨rfl, hIH361, hJH361, m362, m363, m364, m365, m366⟩
        · exfalso; omega
  · refine g_aload_n rfl ?_
    refine g_iload_n rfl ?_
    refine g_iload_n rfl ?_
    refine g_aload_n rfl ?_
    refine g_iload_n rfl ?_
    refine g_iconst (by decide) (fun v423 kv423 => ?_)
    refine g_invvi hIH361 sm_0 rfl rfl rfl rfl (s_181 a1 (by first | with_reducible assumption | omega) v423 (by first | with_reducible assumption | omega) H361 hIH361 (JM_n hJH361)) (fun v426 H424 r425 => ?_)
    obtain ⟨rfl, p427⟩ := r425
    have tv426 : v426 = aZ H361 2 (69 + 5 * a1.toInt + 3).toNat := by rw [p427, kv423]
    have qv426 := JN_w3 (JM_n hJH361) (by first | with_reducible assumption | omega) tv374 tv426
    refine g_aload_n rfl ?_
    refine g_gfr hIH361 sm_0 rfl ?_
    refine g_iload_n rfl ?_
    refine g_iaload hIH361 sm_18 rfl (by first | with_reducible assumption | omega) (fun v428 ev428 lv428 uv428 => ?_)
    refine g_aload_n rfl ?_
    refine g_iload_n rfl ?_
    refine g_iconst (by decide) (fun v429 kv429 => ?_)
    refine g_invvi hIH361 sm_0 rfl rfl rfl rfl (s_181 a1 (by first | with_reducible assumption | omega) v429 (by first | with_reducible assumption | omega) H361 hIH361 (JM_n hJH361)) (fun v432 H430 r431 => ?_)
    obtain ⟨rfl, p433⟩ := r431
    have tv432 : v432 = aZ H361 2 (69 + 5 * a1.toInt + 4).toNat := by rw [p433, kv429]
    have qv432 := JN_w4 (JM_n hJH361) (by first | with_reducible assumption | omega) tv374 tv432
    refine g_invvv hIH361 sm_0 rfl rfl rfl rfl (s_194 v374 (by first | with_reducible assumption | omega) v379 (by first | with_reducible assumption | omega) v426 v428 v432 H361 hIH361 hJH361 (by first | with_reducible assumption | omega) (by first | with_reducible assumption | omega) (by first | with_reducible assumption | omega) (RS_cg m367 m368 m369 (p360 v374 v379 v426 ((tv374.trans (m363 _))) ((tv379.trans (m363 _))) ((tv426.trans (m363 _))) (by first | with_reducible assumption | omega)))) (fun H434 r435 => ?_)
    obtain ⟨hIH434, hJH434, m436, m437, m438, m439, m440⟩ := r435
    have m441 : ∀ a f, fZ H434 a f = fZ H a f := fun a f => (m436 a f).trans (m362 a f)
    have m442 : ∀ i, aZ H434 2 i = aZ H 2 i := fun i => (m437 i).trans (m363 i)
    have m443 : ∀ i, aZ H434 19 i = aZ H 19 i := fun i => (m438 i).trans (m364 i)
    have m444 : ∀ i, aZ H434 17 i = aZ H 17 i := fun i => (m439 i).trans (m365 i)
    have m445 : kpM H H434 := kpM_t m366 m440
    refine g_goto ?_
    exact g_ret ⟨rfl, hIH434, hJH434, m441, m442, m443, m444, m445⟩
set_option maxRecDepth 4000 in
set_option maxHeartbeats 4000000 in
/-- M.runs -/
theorem s_198 (a1 : Int32) (H : mzH) (hI : gI SM H) (hJ : JN H) : gCall 198 [.ref 0, .int a1] H (gRv (fun H' => gI SM H' ∧ JM H' ∧ fZ H' 0 2 = fZ H 0 2 ∧ (∀ i, aZ H' 2 i = aZ H 2 i) ∧ (∀ i, aZ H' 17 i = aZ H 17 i) ∧ kpM H H' ∧ pmA H' (aZ H' 2 2).toInt 60)) := by
  obtain ⟨k0_2, ek0_2⟩ : ∃ z, z = fZ H 0 2 := ⟨_, rfl⟩
  have ik0_2 : k0_2.toInt = (fZ H 0 2).toInt := by rw [← ek0_2]
  have bk0_2 : 0 ≤ k0_2.toInt ∧ k0_2.toInt ≤ 900 := by rw [ek0_2]; exact fZ_of hI sm_0 rfl
  have mk2 : ∀ i, aZ H 2 i = aZ H 2 i := fun _ => rfl
  have mk17 : ∀ i, aZ H 17 i = aZ H 17 i := fun _ => rfl
  have mkfr : kpM H H := kpM_r
  refine gG_call [(0, .ref 0), (1, .int a1)] ⟨rfl, rfl, trivial⟩ ?_
  show gG 3 zB_198 (mzBlk zB_198 0) [(0, .ref 0), (1, .int a1)] [] H 0 0 _
  refine g_aload_n rfl ?_
  refine g_invvv hI sm_0 rfl rfl rfl rfl (s_184 H hI hJ) (fun H301 r302 => ?_)
  obtain ⟨hIH301, hJH301, w303, m304, m305, m306, p307⟩ := r302
  have e308 : k0_2 = fZ H301 0 2 := ek0_2.trans w303.symm
  have m309 : ∀ i, aZ H301 2 i = aZ H 2 i := fun i => (m304 i).trans (mk2 i)
  have m310 : ∀ i, aZ H301 17 i = aZ H 17 i := fun i => (m305 i).trans (mk17 i)
  have m311 : kpM H H301 := kpM_t mkfr m306
  refine g_iconst (by decide) (fun v312 kv312 => ?_)
  refine g_istore_n (l' := [(0, .ref 0), (1, .int a1), (2, .int v312)]) rfl rfl ?_
  refine g_nop ?_
  have L319 : ∀ (N : Nat) (v313 : Int32) (H314 : mzH), gI SM H314 → JM H314 → k0_2 = fZ H314 0 2 → (∀ i, aZ H314 2 i = aZ H 2 i) → (∀ i, aZ H314 17 i = aZ H 17 i) → kpM H H314 → (0 ≤ v313.toInt ∧ v313.toInt ≤ 60) → pmA H314 (aZ H314 2 2).toInt 60 → (60 - v313.toInt).toNat < N → gG 3 zB_198 (mzBlk zB_198 1) [(0, .ref 0), (1, .int a1), (2, .int v313)] [] H314 0 0 (gRv (fun H' => gI SM H' ∧ JM H' ∧ fZ H' 0 2 = fZ H 0 2 ∧ (∀ i, aZ H' 2 i = aZ H 2 i) ∧ (∀ i, aZ H' 17 i = aZ H 17 i) ∧ kpM H H' ∧ pmA H' (aZ H' 2 2).toInt 60)) := by
    intro N
    induction N with
    | zero => intro v313 H314 hIH314 hJH314 e315 m316 m317 m318 bv313 q1 hmL319; exact absurd hmL319 (Nat.not_lt_zero _)
    | succ N ihL319 =>
      intro v313 H314 hIH314 hJH314 e315 m316 m317 m318 bv313 q1 hmL319
      refine g_iload_n rfl ?_
      refine g_aload_n rfl ?_
      refine g_gfi hIH314 sm_0 rfl (fun v320 ev320 lv320 uv320 => ?_)
      refine g_if2_ge (fun c321 => ?_) (fun c321 => ?_)
      · exact g_ret ⟨rfl, hIH314, hJH314, (e315.symm.trans ek0_2), m316, m317, m318, q1⟩
      · refine g_aload_n rfl ?_
        refine g_gfr hIH314 sm_0 rfl ?_
        refine g_aload_n rfl ?_
        refine g_gfr hIH314 sm_0 rfl ?_
        refine g_iload_n rfl ?_
        refine g_iaload hIH314 sm_19 rfl (by first | with_reducible assumption | omega) (fun v322 ev322 lv322 uv322 => ?_)
        refine g_iaload hIH314 sm_18 rfl (by first | with_reducible assumption | omega) (fun v323 ev323 lv323 uv323 => ?_)
        refine g_iload_n rfl ?_
        refine g_if2_gt (fun c324 => ?_) (fun c324 => ?_)
        · exact g_ret ⟨rfl, hIH314, hJH314, (e315.symm.trans ek0_2), m316, m317, m318, q1⟩
        · refine g_aload_n rfl ?_
          refine g_aload_n rfl ?_
          refine g_gfr hIH314 sm_0 rfl ?_
          refine g_iload_n rfl ?_
          refine g_ialoadk hIH314 sm_19 rfl (by first | with_reducible assumption | omega) ev322 ?_
          refine g_invvv hIH314 sm_0 rfl rfl rfl rfl (s_192 v322 (by first | with_reducible assumption | omega) H314 hIH314 hJH314) (fun H325 r326 => ?_)
          obtain ⟨hIH325, hJH325, m327, m328, m329, m330, m331⟩ := r326
          have e332 : k0_2 = fZ H325 0 2 := e315.trans (m327 0 2).symm
          have m333 : ∀ i, aZ H325 2 i = aZ H 2 i := fun i => (m328 i).trans (m316 i)
          have m334 : ∀ i, aZ H325 17 i = aZ H 17 i := fun i => (m330 i).trans (m317 i)
          have m335 : kpM H H325 := kpM_t m318 m331
          refine g_iinc (l' := (fun v336 => [(0, .ref 0), (1, .int a1), (2, .int v336)])) rfl rfl (by decide) (by first | with_reducible assumption | omega) (fun _ => rfl) (fun v336 ev336 => ?_)
          refine g_goto ?_
          exact ihL319 v336 H325 hIH325 hJH325 e332 m333 m334 m335 (by first | with_reducible assumption | omega) (by rw [m328 2]; exact pmA_cg m330 m329 q1) (by first | with_reducible assumption | omega)
  exact L319 _ v312 H301 hIH301 hJH301 e308 m309 m310 m311 (by first | with_reducible assumption | omega) p307 (Nat.lt_succ_self _)
set_option maxRecDepth 4000 in
set_option maxHeartbeats 4000000 in
/-- M.runsAll -/
theorem s_199 (H : mzH) (hI : gI SM H) (hJ : JN H) : gCall 199 [.ref 0] H (gRv (fun H' => gI SM H' ∧ JM H' ∧ fZ H' 0 2 = fZ H 0 2 ∧ (∀ i, aZ H' 2 i = aZ H 2 i) ∧ kpM H H' ∧ (∀ q : Nat, (q : Int) < (aZ H' 2 2).toInt → ∃ p : Nat, p < 60 ∧ (aZ H' 19 p).toInt = q))) := by
  obtain ⟨k0_2, ek0_2⟩ : ∃ z, z = fZ H 0 2 := ⟨_, rfl⟩
  have ik0_2 : k0_2.toInt = (fZ H 0 2).toInt := by rw [← ek0_2]
  have bk0_2 : 0 ≤ k0_2.toInt ∧ k0_2.toInt ≤ 900 := by rw [ek0_2]; exact fZ_of hI sm_0 rfl
  have mk2 : ∀ i, aZ H 2 i = aZ H 2 i := fun _ => rfl
  have mkfr : kpM H H := kpM_r
  refine gG_call [(0, .ref 0)] ⟨rfl, trivial⟩ ?_
  show gG 1 zB_199 (mzBlk zB_199 0) [(0, .ref 0)] [] H 0 0 _
  refine g_aload_n rfl ?_
  refine g_invvv hI sm_0 rfl rfl rfl rfl (s_182 H hI hJ) (fun H81 r82 => ?_)
  obtain ⟨hIH81, hJH81, m83, m84, m85, p86⟩ := r82
  have e87 : k0_2 = fZ H81 0 2 := ek0_2.trans (m83 0 2).symm
  have m88 : ∀ i, aZ H81 2 i = aZ H 2 i := fun i => (m84 i).trans (mk2 i)
  have m89 : kpM H H81 := kpM_t mkfr m85
  refine g_aload_n rfl ?_
  refine g_sipush (by decide) (fun v90 kv90 => ?_)
  refine g_invvv hIH81 sm_0 rfl rfl rfl rfl (s_198 v90 H81 hIH81 hJH81) (fun H91 r92 => ?_)
  obtain ⟨hIH91, hJH91, w93, m94, m95, m96, p97⟩ := r92
  have e98 : k0_2 = fZ H91 0 2 := e87.trans w93.symm
  have m99 : ∀ i, aZ H91 2 i = aZ H 2 i := fun i => (m94 i).trans (m88 i)
  have m100 : kpM H H91 := kpM_t m89 m96
  exact g_ret ⟨rfl, hIH91, hJH91, (e98.symm.trans ek0_2), m99, m100, (fun q hq => by obtain ⟨p, hp, e⟩ := p97 q hq (by rw [m95 q]; exact p86 q (by rw [← m94 2]; exact hq)); exact ⟨p, by omega, e⟩)⟩
set_option maxRecDepth 4000 in
set_option maxHeartbeats 4000000 in
/-- M.runsTo -/
theorem s_200 (a1 : Int32) (H : mzH) (hI : gI SM H) (hJ : JN H) : gCall 200 [.ref 0, .int a1] H (gRv (fun H' => gI SM H' ∧ JM H' ∧ fZ H' 0 2 = fZ H 0 2 ∧ kpM H H')) := by
  obtain ⟨k0_2, ek0_2⟩ : ∃ z, z = fZ H 0 2 := ⟨_, rfl⟩
  have ik0_2 : k0_2.toInt = (fZ H 0 2).toInt := by rw [← ek0_2]
  have bk0_2 : 0 ≤ k0_2.toInt ∧ k0_2.toInt ≤ 900 := by rw [ek0_2]; exact fZ_of hI sm_0 rfl
  have mkfr : kpM H H := kpM_r
  refine gG_call [(0, .ref 0), (1, .int a1)] ⟨rfl, rfl, trivial⟩ ?_
  show gG 2 zB_200 (mzBlk zB_200 0) [(0, .ref 0), (1, .int a1)] [] H 0 0 _
  refine g_aload_n rfl ?_
  refine g_invvv hI sm_0 rfl rfl rfl rfl (s_182 H hI hJ) (fun H69 r70 => ?_)
  obtain ⟨hIH69, hJH69, m71, m72, m73, p74⟩ := r70
  have e75 : k0_2 = fZ H69 0 2 := ek0_2.trans (m71 0 2).symm
  have m76 : kpM H H69 := kpM_t mkfr m73
  refine g_aload_n rfl ?_
  refine g_iload_n rfl ?_
  refine g_invvv hIH69 sm_0 rfl rfl rfl rfl (s_198 a1 H69 hIH69 hJH69) (fun H77 r78 => ?_)
  obtain ⟨hIH77, hJH77, w79, m80, m81, m82, p83⟩ := r78
  have e84 : k0_2 = fZ H77 0 2 := e75.trans w79.symm
  have m85 : kpM H H77 := kpM_t m76 m82
  exact g_ret ⟨rfl, hIH77, hJH77, (e84.symm.trans ek0_2), m85⟩
set_option maxRecDepth 4000 in
set_option maxHeartbeats 4000000 in
/-- M.whereIs -/
theorem s_201 (a1 : Int32) (ha1 : 0 ≤ a1.toInt ∧ a1.toInt ≤ 39) (H : mzH) (hI : gI SM H) (hJ : JM H) : gCall 201 [.ref 0, .int a1] H (gRi (fun v H' => H = H' ∧ (-4 ≤ v.toInt ∧ v.toInt ≤ 7))) := by
  refine gG_call [(0, .ref 0), (1, .int a1)] ⟨rfl, rfl, trivial⟩ ?_
  show gG 3 zB_201 (mzBlk zB_201 0) [(0, .ref 0), (1, .int a1)] [] H 0 0 _
  refine g_aload_n rfl ?_
  refine g_gfr hI sm_0 rfl ?_
  refine g_iload_n rfl ?_
  refine g_baload hI sm_7 rfl (by first | with_reducible assumption | omega) (fun v53 ev53 lv53 uv53 => ?_)
  refine g_if_ne (fun c54 => ?_) (fun c54 => ?_)
  · refine g_aload_n rfl ?_
    refine g_gfr hI sm_0 rfl ?_
    refine g_iload_n rfl ?_
    refine g_baload hI sm_16 rfl (by first | with_reducible assumption | omega) (fun v55 ev55 lv55 uv55 => ?_)
    refine g_if_eq (fun c56 => ?_) (fun c56 => ?_)
    · refine g_aload_n rfl ?_
      refine g_iload_n rfl ?_
      refine g_invvi hI sm_0 rfl rfl rfl rfl (s_185 a1 (by first | with_reducible assumption | omega) H hI hJ) (fun v59 H57 r58 => ?_)
      obtain ⟨rfl, bv59⟩ := r58
      refine g_istore_n (l' := [(0, .ref 0), (1, .int a1), (2, .int v59)]) rfl rfl ?_
      refine g_aload_n rfl ?_
      refine g_gfr hI sm_0 rfl ?_
      refine g_iload_n rfl ?_
      refine g_baload hI sm_15 rfl (by first | with_reducible assumption | omega) (fun v60 ev60 lv60 uv60 => ?_)
      refine g_if_eq (fun c61 => ?_) (fun c61 => ?_)
      · refine g_aload_n rfl ?_
        refine g_gfr hI sm_0 rfl ?_
        refine g_iload_n rfl ?_
        refine g_iaload hI sm_10 rfl (by first | with_reducible assumption | omega) (fun v62 ev62 lv62 uv62 => ?_)
        refine g_nop ?_
        exact g_iret ⟨_, rfl, rfl, (by first | with_reducible assumption | omega)⟩
      · refine g_bipush (by decide) (fun v63 kv63 => ?_)
        refine g_goto ?_
        exact g_iret ⟨_, rfl, rfl, (by first | with_reducible assumption | omega)⟩
    · refine g_bipush (by decide) (fun v64 kv64 => ?_)
      exact g_iret ⟨_, rfl, rfl, (by first | with_reducible assumption | omega)⟩
  · refine g_bipush (by decide) (fun v65 kv65 => ?_)
    exact g_iret ⟨_, rfl, rfl, (by first | with_reducible assumption | omega)⟩
set_option maxRecDepth 4000 in
theorem s_203 (a1 : Int32) (ha1 : 0 ≤ a1.toInt ∧ a1.toInt ≤ 59) (H : mzH) (hI : gI SM H) (hJ : JN H) (hp0 : ∃ p : Nat, p < 60 ∧ (aZ H 19 p).toInt = a1.toInt) : gCall 203 [.ref 0, .int a1] H (gRi (fun v H' => H = H')) := by
  obtain ⟨p, hp, hpe⟩ := hp0
  refine gG_call [(0, .ref 0), (1, .int a1)] ⟨rfl, rfl, trivial⟩ ?_
  show gG 3 zB_203 (mzBlk zB_203 0) [(0, .ref 0), (1, .int a1)] [] H 0 0 _
  refine g_iconst (by decide) (fun v1 kv1 => ?_)
  refine g_istore_n (l' := [(0, .ref 0), (1, .int a1), (2, .int v1)]) rfl rfl ?_
  refine g_nop ?_
  have L : ∀ (N : Nat) (v2 : Int32), (0 ≤ v2.toInt ∧ v2.toInt ≤ p) → (p - v2.toInt).toNat < N → gG 3 zB_203 (mzBlk zB_203 1) [(0, .ref 0), (1, .int a1), (2, .int v2)] [] H 0 0 (gRi (fun v H' => H = H')) := by
    intro N
    induction N with
    | zero => intro v2 _ hm; exact absurd hm (Nat.not_lt_zero _)
    | succ N ih =>
      intro v2 b2 hm
      refine g_aload_n rfl ?_
      refine g_gfr hI sm_0 rfl ?_
      refine g_iload_n rfl ?_
      refine g_iaload hI sm_19 rfl (by first | with_reducible assumption | omega) (fun v3 ev3 lv3 uv3 => ?_)
      refine g_iload_n rfl ?_
      refine g_if2_eq (fun c => ?_) (fun c => ?_)
      · refine g_iload_n rfl ?_
        exact g_iret ⟨_, rfl, rfl⟩
      · have hne : ¬ v2.toInt = p := fun h => c (by rw [ev3, show v2.toInt.toNat = p by omega]; exact hpe)
        refine g_iinc (l' := (fun v4 => [(0, .ref 0), (1, .int a1), (2, .int v4)])) rfl rfl (by decide) (by first | with_reducible assumption | omega) (fun _ => rfl) (fun v4 ev4 => ?_)
        refine g_goto ?_
        exact ih v4 (by first | with_reducible assumption | omega) (by first | with_reducible assumption | omega)
  exact L _ v1 (by first | with_reducible assumption | omega) (Nat.lt_succ_self _)

set_option maxRecDepth 4000 in
set_option maxHeartbeats 4000000 in
/-- M.isLate -/
theorem s_204 (a1 : Int32) (ha1 : 0 ≤ a1.toInt ∧ a1.toInt ≤ 59) (H : mzH) (hI : gI SM H) (hJ : JN H) : gCall 204 [.ref 0, .int a1] H (gRi (fun v H' => H = H' ∧ (0 ≤ v.toInt ∧ v.toInt ≤ 1))) := by
  refine gG_call [(0, .ref 0), (1, .int a1)] ⟨rfl, rfl, trivial⟩ ?_
  show gG 3 zB_204 (mzBlk zB_204 0) [(0, .ref 0), (1, .int a1)] [] H 0 0 _
  refine g_iconst (by decide) (fun v226 kv226 => ?_)
  refine g_istore_n (l' := [(0, .ref 0), (1, .int a1), (2, .int v226)]) rfl rfl ?_
  refine g_nop ?_
  have L228 : ∀ (N : Nat) (v227 : Int32), (0 ≤ v227.toInt ∧ v227.toInt ≤ 59) → (59 - v227.toInt).toNat < N → gG 3 zB_204 (mzBlk zB_204 1) [(0, .ref 0), (1, .int a1), (2, .int v227)] [] H 0 0 (gRi (fun v H' => H = H' ∧ (0 ≤ v.toInt ∧ v.toInt ≤ 1))) := by
    intro N
    induction N with
    | zero => intro v227 bv227 hmL228; exact absurd hmL228 (Nat.not_lt_zero _)
    | succ N ihL228 =>
      intro v227 bv227 hmL228
      refine g_iload_n rfl ?_
      refine g_iload_n rfl ?_
      refine g_if2_ge (fun c229 => ?_) (fun c229 => ?_)
      · refine g_iconst (by decide) (fun v230 kv230 => ?_)
        exact g_zret (by first | with_reducible assumption | omega) ⟨_, rfl, rfl, (by first | with_reducible assumption | omega)⟩
      · refine g_aload_n rfl ?_
        refine g_iload_n rfl ?_
        refine g_iconst (by decide) (fun v231 kv231 => ?_)
        refine g_invvi hI sm_0 rfl rfl rfl rfl (s_181 v227 (by first | with_reducible assumption | omega) v231 (by first | with_reducible assumption | omega) H hI hJ) (fun v234 H232 r233 => ?_)
        obtain ⟨rfl, p235⟩ := r233
        have tv234 : v234 = aZ H 2 (69 + 5 * v227.toInt + 0).toNat := by rw [p235, kv231]
        refine g_aload_n rfl ?_
        refine g_iload_n rfl ?_
        refine g_iconst (by decide) (fun v236 kv236 => ?_)
        refine g_invvi hI sm_0 rfl rfl rfl rfl (s_181 a1 (by first | with_reducible assumption | omega) v236 (by first | with_reducible assumption | omega) H hI hJ) (fun v239 H237 r238 => ?_)
        obtain ⟨rfl, p240⟩ := r238
        have tv239 : v239 = aZ H 2 (69 + 5 * a1.toInt + 0).toNat := by rw [p240, kv236]
        refine g_if2_le (fun c241 => ?_) (fun c241 => ?_)
        · refine g_iinc (l' := (fun v242 => [(0, .ref 0), (1, .int a1), (2, .int v242)])) rfl rfl (by decide) (by first | with_reducible assumption | omega) (fun _ => rfl) (fun v242 ev242 => ?_)
          refine g_goto ?_
          exact ihL228 v242 (by first | with_reducible assumption | omega) (by first | with_reducible assumption | omega)
        · refine g_iconst (by decide) (fun v243 kv243 => ?_)
          exact g_zret (by first | with_reducible assumption | omega) ⟨_, rfl, rfl, (by first | with_reducible assumption | omega)⟩
  exact L228 _ v226 (by first | with_reducible assumption | omega) (Nat.lt_succ_self _)
