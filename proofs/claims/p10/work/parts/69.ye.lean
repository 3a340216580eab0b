/-- nothing told -/
def pB0 : pB := pBm 0 0 0 10 10 0 (fun _ => 0) (fun _ => 0) (fun _ => 0) (fun _ => 0) (fun _ => 0) (fun _ => 0)
theorem bk_0m {H : mzH} {c : pB} (e : c = pB0) (h0 : (aZ H 3 0).toInt = 0) (h1 : (aZ H 3 1).toInt = 0) (h2 : (aZ H 3 2).toInt = 0) (h3 : (aZ H 3 3).toInt = 10) (h4 : (aZ H 3 4).toInt = 10) (h5 : (fZ H 0 17).toInt = 0) : bkM H c := by
  subst e
  refine ⟨h0, h1, h2, h3, h4, h5, fun p hp => ?_, fun k hk => ?_, ?_⟩
  · have hp : (p : Int) < 0 := hp
    omega
  · have hk : (k : Int) < 0 := hk
    omega
  · show (0 : Int) ≤ 0 ∧ (0 : Int) ≤ 12
    decide
theorem rdT_pre {H H1 B : mzH} {told t : Int} {T : pT} {c : pB} {v : Int32} (ht : t = told) (h : rdT H1 B t T c v) (k : kwF H H1) : rdT H B told T c v := by
  subst ht
  obtain ⟨n, h1, h2, h3, h4, h5⟩ := h
  refine ⟨n, h1, h2, h3, h4, ?_⟩
  rcases h5 with ⟨a1, a2, a3, a4, a5, a6⟩ | h5
  · exact Or.inl ⟨a1, a2, a3, fun i => (a4 i).trans (k.1 i), fun i => (a5 i).trans (k.2.1 i), a6.trans k.2.2⟩
  · exact Or.inr h5
set_option maxRecDepth 4000 in
set_option maxHeartbeats 4000000 in
/-- M.text -/
theorem e_175a (a1 : Int32) (H : mzH) (hI : gI SM H) (hJ : JN H) (hp0 : ¬ (0 ≤ a1.toInt ∧ a1.toInt ≤ (fZ H 0 2).toInt)) : gCall 175 [.ref 0, .int a1] H (gRi (fun v H' => gI SM H' ∧ JN H' ∧ kpM H H' ∧ v.toInt = -2)) := by
  obtain ⟨k0_2, ek0_2⟩ : ∃ z, z = fZ H 0 2 := ⟨_, rfl⟩
  have ik0_2 : k0_2.toInt = (fZ H 0 2).toInt := by rw [← ek0_2]
  have bk0_2 : 0 ≤ k0_2.toInt ∧ k0_2.toInt ≤ 900 := by rw [ek0_2]; exact fZ_of hI sm_0 rfl
  have mkfr : kpM H H := kpM_r
  refine gG_call [(0, .ref 0), (1, .int a1)] ⟨rfl, rfl, trivial⟩ ?_
  show gG 2 zB_175 (mzBlk zB_175 0) [(0, .ref 0), (1, .int a1)] [] H 0 0 _
  refine g_aload_n rfl ?_
  refine g_iconst (by decide) (fun v33 kv33 => ?_)
  refine g_pfi hI sm_0 rfl (gz_any _) (fun H34 eH34 hIH34 => ?_)
  have hJH34 : JN H34 := JN_sF eH34 hJ
  have e35 : k0_2 = fZ H34 0 2 := by rw [eH34, fZ_sF_ne (by decide)]; exact ek0_2
  have m36 : kpM H H34 := kpM_F mkfr eH34 (by omega)
  have ie35 : k0_2.toInt = (fZ H34 0 2).toInt := by rw [← e35]
  refine g_iload_n rfl ?_
  refine g_if_lt (fun c37 => ?_) (fun c37 => ?_)
  · refine g_bipush (by decide) (fun v38 kv38 => ?_)
    exact g_iret ⟨_, rfl, hIH34, hJH34, m36, (by omega)⟩
  · refine g_iload_n rfl ?_
    refine g_aload_n rfl ?_
    refine g_gfk hIH34 sm_0 rfl e35 ?_
    refine g_if2_le (fun c39 => ?_) (fun c39 => ?_)
    · exfalso; omega
    · refine g_nop ?_
      refine g_bipush (by decide) (fun v40 kv40 => ?_)
      exact g_iret ⟨_, rfl, hIH34, hJH34, m36, (by omega)⟩
set_option maxRecDepth 4000 in
set_option maxHeartbeats 4000000 in
/-- M.text -/
theorem e_175b {b : Nat → Int} {T : pT} {c : pB} (a1 : Int32) (H : mzH) (hI : gI SM H) (hJ : JN H) (hp0 : (0 ≤ a1.toInt ∧ a1.toInt ≤ (fZ H 0 2).toInt)) (hp1 : ∀ q, q < a1.toInt.toNat → sgB (b q) (bM H q)) (hp2 : tkA b a1.toInt.toNat T.K T.S T.V T.M) (hp3 : c = pB0) : gCall 175 [.ref 0, .int a1] H (gRi (fun v H' => gI SM H' ∧ JN H' ∧ rdT H H' 0 T c v)) := by
  obtain ⟨k0_2, ek0_2⟩ : ∃ z, z = fZ H 0 2 := ⟨_, rfl⟩
  have ik0_2 : k0_2.toInt = (fZ H 0 2).toInt := by rw [← ek0_2]
  have bk0_2 : 0 ≤ k0_2.toInt ∧ k0_2.toInt ≤ 900 := by rw [ek0_2]; exact fZ_of hI sm_0 rfl
  have mk1 : ∀ i, aZ H 1 i = aZ H 1 i := fun _ => rfl
  have mk2 : ∀ i, aZ H 2 i = aZ H 2 i := fun _ => rfl
  have mk5 : ∀ i, aZ H 5 i = aZ H 5 i := fun _ => rfl
  have mkF : ∀ a f, fZ H a f = fZ H a f := fun _ _ => rfl
  refine gG_call [(0, .ref 0), (1, .int a1)] ⟨rfl, rfl, trivial⟩ ?_
  show gG 2 zB_175 (mzBlk zB_175 0) [(0, .ref 0), (1, .int a1)] [] H 0 0 _
  refine g_aload_n rfl ?_
  refine g_iconst (by decide) (fun v129 kv129 => ?_)
  refine g_pfi hI sm_0 rfl (gz_any _) (fun H130 eH130 hIH130 => ?_)
  have hJH130 : JN H130 := JN_sF eH130 hJ
  have e131 : k0_2 = fZ H130 0 2 := by rw [eH130, fZ_sF_ne (by decide)]; exact ek0_2
  have m132 : ∀ i, aZ H130 1 i = aZ H 1 i := fun i => (by rw [eH130, aZ_sF] : aZ H130 1 i = aZ H 1 i).trans (mk1 i)
  have m133 : ∀ i, aZ H130 2 i = aZ H 2 i := fun i => (by rw [eH130, aZ_sF] : aZ H130 2 i = aZ H 2 i).trans (mk2 i)
  have m134 : ∀ i, aZ H130 5 i = aZ H 5 i := fun i => (by rw [eH130, aZ_sF] : aZ H130 5 i = aZ H 5 i).trans (mk5 i)
  have ie131 : k0_2.toInt = (fZ H130 0 2).toInt := by rw [← e131]
  refine g_iload_n rfl ?_
  refine g_if_lt (fun c136 => ?_) (fun c136 => ?_)
  · exfalso; omega
  · refine g_iload_n rfl ?_
    refine g_aload_n rfl ?_
    refine g_gfk hIH130 sm_0 rfl e131 ?_
    refine g_if2_le (fun c137 => ?_) (fun c137 => ?_)
    · refine g_aload_n rfl ?_
      refine g_invvv hIH130 sm_0 rfl rfl rfl rfl (e_172 H130 hIH130 hJH130) (fun H138 r139 => ?_)
      obtain ⟨hIH138, hJH138, w140, m141, m142, m143, m144, p145, p146, p147, p148, p149, p150, p151⟩ := r139
      have e152 : k0_2 = fZ H138 0 2 := e131.trans w140.symm
      have m153 : ∀ i, aZ H138 1 i = aZ H 1 i := fun i => (m141 i).trans (m132 i)
      have m154 : ∀ i, aZ H138 2 i = aZ H 2 i := fun i => (m142 i).trans (m133 i)
      have m155 : ∀ i, aZ H138 5 i = aZ H 5 i := fun i => (m143 i).trans (m134 i)
      have ie152 : k0_2.toInt = (fZ H138 0 2).toInt := by rw [← e152]
      refine g_aload_n rfl ?_
      refine g_iload_n rfl ?_
      refine g_iconst (by decide) (fun v156 kv156 => ?_)
      refine g_invvi hIH138 sm_0 rfl rfl rfl rfl (e_173 (b := b) (n := a1.toInt.toNat) (T := T) (c := c) a1 (by omega) v156 (by omega) H138 hIH138 hJH138 ⟨fun q hq => by rw [show bM H138 q = bM H q from by unfold bM; rw [m153]]; exact hp1 q hq, hp2⟩ (by omega) (bk_0m hp3 p145 p146 p147 p148 p149 p150)) (fun v159 H157 r158 => ?_)
      obtain ⟨hIH157, hJH157, p160⟩ := r158
      exact g_iret ⟨_, rfl, hIH157, hJH157, (rdT_pre (by omega) p160 ⟨(fun i => (m142 i).trans (by rw [eH130, aZ_sF])), (fun i => (m143 i).trans (by rw [eH130, aZ_sF])), (p151 18 (by decide)).trans (by rw [eH130, fZ_sF_ne (by decide)])⟩)⟩
    · refine g_nop ?_
      exfalso; omega
set_option maxRecDepth 4000 in
set_option maxHeartbeats 4000000 in
/-- M.tell -/
theorem e_176a (a1 : Int32) (H : mzH) (hI : gI SM H) (hJ : JN H) (hp0 : ¬ (0 ≤ a1.toInt ∧ a1.toInt ≤ (fZ H 0 2).toInt)) : gCall 176 [.ref 0, .int a1] H (gRi (fun v H' => gI SM H' ∧ JN H' ∧ kpM H H' ∧ v.toInt = -2)) := by
  obtain ⟨k0_2, ek0_2⟩ : ∃ z, z = fZ H 0 2 := ⟨_, rfl⟩
  have ik0_2 : k0_2.toInt = (fZ H 0 2).toInt := by rw [← ek0_2]
  have bk0_2 : 0 ≤ k0_2.toInt ∧ k0_2.toInt ≤ 900 := by rw [ek0_2]; exact fZ_of hI sm_0 rfl
  have mkfr : kpM H H := kpM_r
  refine gG_call [(0, .ref 0), (1, .int a1)] ⟨rfl, rfl, trivial⟩ ?_
  show gG 3 zB_176 (mzBlk zB_176 0) [(0, .ref 0), (1, .int a1)] [] H 0 0 _
  refine g_aload_n rfl ?_
  refine g_iconst (by decide) (fun v33 kv33 => ?_)
  refine g_pfi hI sm_0 rfl (gz_any _) (fun H34 eH34 hIH34 => ?_)
  have hJH34 : JN H34 := JN_sF eH34 hJ
  have e35 : k0_2 = fZ H34 0 2 := by rw [eH34, fZ_sF_ne (by decide)]; exact ek0_2
  have m36 : kpM H H34 := kpM_F mkfr eH34 (by omega)
  have ie35 : k0_2.toInt = (fZ H34 0 2).toInt := by rw [← e35]
  refine g_iload_n rfl ?_
  refine g_if_lt (fun c37 => ?_) (fun c37 => ?_)
  · refine g_bipush (by decide) (fun v38 kv38 => ?_)
    exact g_iret ⟨_, rfl, hIH34, hJH34, m36, (by omega)⟩
  · refine g_iload_n rfl ?_
    refine g_aload_n rfl ?_
    refine g_gfk hIH34 sm_0 rfl e35 ?_
    refine g_if2_le (fun c39 => ?_) (fun c39 => ?_)
    · exfalso; omega
    · refine g_nop ?_
      refine g_bipush (by decide) (fun v40 kv40 => ?_)
      exact g_iret ⟨_, rfl, hIH34, hJH34, m36, (by omega)⟩
set_option maxRecDepth 4000 in
set_option maxHeartbeats 4000000 in
/-- M.tell -/
theorem e_176b {b : Nat → Int} {T : pT} {c : pB} (a1 : Int32) (H : mzH) (hI : gI SM H) (hJ : JN H) (hp0 : (0 ≤ a1.toInt ∧ a1.toInt ≤ (fZ H 0 2).toInt)) (hp1 : ∀ q, q < a1.toInt.toNat → sgB (b q) (bM H q)) (hp2 : tkA b a1.toInt.toNat T.K T.S T.V T.M) (hp3 : bkW H c) : gCall 176 [.ref 0, .int a1] H (gRi (fun v H' => gI SM H' ∧ JN H' ∧ rdT H H' 1 T c v)) := by
  obtain ⟨k0_2, ek0_2⟩ : ∃ z, z = fZ H 0 2 := ⟨_, rfl⟩
  have ik0_2 : k0_2.toInt = (fZ H 0 2).toInt := by rw [← ek0_2]
  have bk0_2 : 0 ≤ k0_2.toInt ∧ k0_2.toInt ≤ 900 := by rw [ek0_2]; exact fZ_of hI sm_0 rfl
  have mk1 : ∀ i, aZ H 1 i = aZ H 1 i := fun _ => rfl
  have mk2 : ∀ i, aZ H 2 i = aZ H 2 i := fun _ => rfl
  have mk5 : ∀ i, aZ H 5 i = aZ H 5 i := fun _ => rfl
  have mkF : ∀ a f, fZ H a f = fZ H a f := fun _ _ => rfl
  have mk7 : ∀ i, aZ H 7 i = aZ H 7 i := fun _ => rfl
  have mk8 : ∀ i, aZ H 8 i = aZ H 8 i := fun _ => rfl
  have mk9 : ∀ i, aZ H 9 i = aZ H 9 i := fun _ => rfl
  refine gG_call [(0, .ref 0), (1, .int a1)] ⟨rfl, rfl, trivial⟩ ?_
  show gG 3 zB_176 (mzBlk zB_176 0) [(0, .ref 0), (1, .int a1)] [] H 0 0 _
  refine g_aload_n rfl ?_
  refine g_iconst (by decide) (fun v537 kv537 => ?_)
  refine g_pfi hI sm_0 rfl (gz_any _) (fun H538 eH538 hIH538 => ?_)
  have hJH538 : JN H538 := JN_sF eH538 hJ
  have e539 : k0_2 = fZ H538 0 2 := by rw [eH538, fZ_sF_ne (by decide)]; exact ek0_2
  have m540 : ∀ i, aZ H538 1 i = aZ H 1 i := fun i => (by rw [eH538, aZ_sF] : aZ H538 1 i = aZ H 1 i).trans (mk1 i)
  have m541 : ∀ i, aZ H538 2 i = aZ H 2 i := fun i => (by rw [eH538, aZ_sF] : aZ H538 2 i = aZ H 2 i).trans (mk2 i)
  have m542 : ∀ i, aZ H538 5 i = aZ H 5 i := fun i => (by rw [eH538, aZ_sF] : aZ H538 5 i = aZ H 5 i).trans (mk5 i)
  have m544 : ∀ i, aZ H538 7 i = aZ H 7 i := fun i => (by rw [eH538, aZ_sF] : aZ H538 7 i = aZ H 7 i).trans (mk7 i)
  have m545 : ∀ i, aZ H538 8 i = aZ H 8 i := fun i => (by rw [eH538, aZ_sF] : aZ H538 8 i = aZ H 8 i).trans (mk8 i)
  have m546 : ∀ i, aZ H538 9 i = aZ H 9 i := fun i => (by rw [eH538, aZ_sF] : aZ H538 9 i = aZ H 9 i).trans (mk9 i)
  have ie539 : k0_2.toInt = (fZ H538 0 2).toInt := by rw [← e539]
  refine g_iload_n rfl ?_
  refine g_if_lt (fun c547 => ?_) (fun c547 => ?_)
  · exfalso; omega
  · refine g_iload_n rfl ?_
    refine g_aload_n rfl ?_
    refine g_gfk hIH538 sm_0 rfl e539 ?_
    refine g_if2_le (fun c548 => ?_) (fun c548 => ?_)
    · refine g_iconst (by decide) (fun v549 kv549 => ?_)
      refine g_istore_n (l' := [(0, .ref 0), (1, .int a1), (2, .int v549)]) rfl rfl ?_
      refine g_nop ?_
      have L559 : ∀ (N : Nat) (v550 : Int32) (H551 : mzH), gI SM H551 → k0_2 = fZ H551 0 2 → (∀ i, aZ H551 1 i = aZ H 1 i) → (∀ i, aZ H551 2 i = aZ H 2 i) → (∀ i, aZ H551 5 i = aZ H 5 i) → (∀ i, aZ H551 7 i = aZ H 7 i) → (∀ i, aZ H551 8 i = aZ H 8 i) → (∀ i, aZ H551 9 i = aZ H 9 i) → (0 ≤ v550.toInt ∧ v550.toInt ≤ 369) → (∀ f, f ≠ 0 → fZ H551 0 f = fZ H 0 f) → (∀ i, i < v550.toInt.toNat → aZ H551 3 i = aZ H 2 i) → (369 - v550.toInt).toNat < N → gG 3 zB_176 (mzBlk zB_176 3) [(0, .ref 0), (1, .int a1), (2, .int v550)] [] H551 0 0 (gRi (fun v H' => gI SM H' ∧ JN H' ∧ rdT H H' 1 T c v)) := by
        intro N
        induction N with
        | zero => intro v550 H551 hIH551 e552 m553 m554 m555 m556 m557 m558 bv550 q0 q1 hmL559; exact absurd hmL559 (Nat.not_lt_zero _)
        | succ N ihL559 =>
          intro v550 H551 hIH551 e552 m553 m554 m555 m556 m557 m558 bv550 q0 q1 hmL559
          refine g_iload_n rfl ?_
          refine g_sipush (by decide) (fun v560 kv560 => ?_)
          refine g_if2_ge (fun c561 => ?_) (fun c561 => ?_)
          · have hJ562 : JN H551 := JN_cp3 hJ (fun i hi => q1 i (by omega)) m554
            refine g_iconst (by decide) (fun v563 kv563 => ?_)
            refine g_istore_n (l' := [(0, .ref 0), (1, .int a1), (2, .int v563)]) rfl rfl ?_
            refine g_nop ?_
            have L573 : ∀ (N : Nat) (v564 : Int32) (H565 : mzH), gI SM H565 → JN H565 → k0_2 = fZ H565 0 2 → (∀ i, aZ H565 1 i = aZ H 1 i) → (∀ i, aZ H565 2 i = aZ H 2 i) → (∀ i, aZ H565 5 i = aZ H 5 i) → (∀ i, aZ H565 7 i = aZ H 7 i) → (∀ i, aZ H565 8 i = aZ H 8 i) → (∀ i, aZ H565 9 i = aZ H 9 i) → (0 ≤ v564.toInt ∧ v564.toInt ≤ 8) → (∀ f, f ≠ 0 → fZ H565 0 f = fZ H 0 f) → (∀ i, i < 369 → aZ H565 3 i = aZ H 2 i) → (∀ i, i < v564.toInt.toNat → aZ H565 4 i = aZ H 5 i) → (8 - v564.toInt).toNat < N → gG 3 zB_176 (mzBlk zB_176 5) [(0, .ref 0), (1, .int a1), (2, .int v564)] [] H565 0 0 (gRi (fun v H' => gI SM H' ∧ JN H' ∧ rdT H H' 1 T c v)) := by
              intro N
              induction N with
              | zero => intro v564 H565 hIH565 hJH565 e566 m567 m568 m569 m570 m571 m572 bv564 q0 q1 q2 hmL573; exact absurd hmL573 (Nat.not_lt_zero _)
              | succ N ihL573 =>
                intro v564 H565 hIH565 hJH565 e566 m567 m568 m569 m570 m571 m572 bv564 q0 q1 q2 hmL573
                refine g_iload_n rfl ?_
                refine g_bipush (by decide) (fun v574 kv574 => ?_)
                refine g_if2_ge (fun c575 => ?_) (fun c575 => ?_)
                · refine g_aload_n rfl ?_
                  refine g_aload_n rfl ?_
                  refine g_gfi hIH565 sm_0 rfl (fun v576 ev576 lv576 uv576 => ?_)
                  refine g_pfz hIH565 sm_0 rfl (by omega) (fun H577 eH577 hIH577 => ?_)
                  have hJH577 : JN H577 := JN_sF eH577 hJH565
                  have e578 : k0_2 = fZ H577 0 2 := by rw [eH577, fZ_sF_ne (by decide)]; exact e566
                  have m579 : ∀ i, aZ H577 1 i = aZ H 1 i := fun i => (by rw [eH577, aZ_sF] : aZ H577 1 i = aZ H565 1 i).trans (m567 i)
                  have m580 : ∀ i, aZ H577 2 i = aZ H 2 i := fun i => (by rw [eH577, aZ_sF] : aZ H577 2 i = aZ H565 2 i).trans (m568 i)
                  have m581 : ∀ i, aZ H577 5 i = aZ H 5 i := fun i => (by rw [eH577, aZ_sF] : aZ H577 5 i = aZ H565 5 i).trans (m569 i)
                  have m582 : ∀ i, aZ H577 7 i = aZ H 7 i := fun i => (by rw [eH577, aZ_sF] : aZ H577 7 i = aZ H565 7 i).trans (m570 i)
                  have m583 : ∀ i, aZ H577 8 i = aZ H 8 i := fun i => (by rw [eH577, aZ_sF] : aZ H577 8 i = aZ H565 8 i).trans (m571 i)
                  have m584 : ∀ i, aZ H577 9 i = aZ H 9 i := fun i => (by rw [eH577, aZ_sF] : aZ H577 9 i = aZ H565 9 i).trans (m572 i)
                  have ie578 : k0_2.toInt = (fZ H577 0 2).toInt := by rw [← e578]
                  refine g_aload_n rfl ?_
                  refine g_iload_n rfl ?_
                  refine g_iconst (by decide) (fun v585 kv585 => ?_)
                  refine g_invvi hIH577 sm_0 rfl rfl rfl rfl (e_173 (b := b) (n := a1.toInt.toNat) (T := T) (c := c) a1 (by omega) v585 (by omega) H577 hIH577 hJH577 ⟨fun q hq => by rw [show bM H577 q = bM H q from by unfold bM; rw [m579]]; exact hp1 q hq, hp2⟩ (by omega) (bkM_G.mpr (bkG_cg hp3 (JN_n20 hJ (v := aZ H 2 0) rfl).2 (JN_n22 hJ (v := aZ H 2 2) rfl).2 (fun i hi => by rw [eH577, aZ_sF]; exact q1 i hi) (fun i hi => by rw [eH577, aZ_sF]; exact q2 i (by omega)) (by rw [eH577, fZ_sF_eq hIH565 sm_0 rfl, ev576]; exact (q0 18 (by decide)))))) (fun v588 H586 r587 => ?_)
                  obtain ⟨hIH586, hJH586, p589⟩ := r587
                  exact g_iret ⟨_, rfl, hIH586, hJH586, (rdT_pre (by omega) p589 ⟨m580, m581, by rw [eH577, fZ_sF_ne (by decide)]; exact q0 18 (by decide)⟩)⟩
                · refine g_aload_n rfl ?_
                  refine g_gfr hIH565 sm_0 rfl ?_
                  refine g_iload_n rfl ?_
                  refine g_aload_n rfl ?_
                  refine g_gfr hIH565 sm_0 rfl ?_
                  refine g_iload_n rfl ?_
                  refine g_iaload hIH565 sm_5 rfl (by omega) (fun v590 ev590 lv590 uv590 => ?_)
                  refine g_iastore hIH565 sm_4 (by omega) (gz_any _) (fun H591 eH591 hIH591 => ?_)
                  have hJH591 : JN H591 := JN_sA (by decide) eH591 hJH565
                  have e592 : k0_2 = fZ H591 0 2 := by rw [eH591, fZ_sA]; exact e566
                  have m593 : ∀ i, aZ H591 1 i = aZ H 1 i := fun i => (by rw [eH591, aZ_sA_nc (by omega)] : aZ H591 1 i = aZ H565 1 i).trans (m567 i)
                  have m594 : ∀ i, aZ H591 2 i = aZ H 2 i := fun i => (by rw [eH591, aZ_sA_nc (by omega)] : aZ H591 2 i = aZ H565 2 i).trans (m568 i)
                  have m595 : ∀ i, aZ H591 5 i = aZ H 5 i := fun i => (by rw [eH591, aZ_sA_nc (by omega)] : aZ H591 5 i = aZ H565 5 i).trans (m569 i)
                  have m596 : ∀ i, aZ H591 7 i = aZ H 7 i := fun i => (by rw [eH591, aZ_sA_nc (by omega)] : aZ H591 7 i = aZ H565 7 i).trans (m570 i)
                  have m597 : ∀ i, aZ H591 8 i = aZ H 8 i := fun i => (by rw [eH591, aZ_sA_nc (by omega)] : aZ H591 8 i = aZ H565 8 i).trans (m571 i)
                  have m598 : ∀ i, aZ H591 9 i = aZ H 9 i := fun i => (by rw [eH591, aZ_sA_nc (by omega)] : aZ H591 9 i = aZ H565 9 i).trans (m572 i)
                  have ie592 : k0_2.toInt = (fZ H591 0 2).toInt := by rw [← e592]
                  refine g_iinc (l' := (fun v599 => [(0, .ref 0), (1, .int a1), (2, .int v599)])) rfl rfl (by decide) (by omega) (fun _ => rfl) (fun v599 ev599 => ?_)
                  refine g_goto ?_
                  exact ihL573 v599 H591 hIH591 hJH591 e592 m593 m594 m595 m596 m597 m598 (by omega) (fun f hf => by rw [eH591, fZ_sA]; exact q0 f hf) (fun i hi => by rw [eH591, aZ_sA_nc (by decide)]; exact q1 i hi) (fun q hq => by rw [eH591]; if e : v564.toInt.toNat = q then (subst e; rw [aZ_sA_eq hIH565 sm_4 (by omega), ev590, m569]) else (rw [aZ_sA_ne e]; exact q2 q (by omega))) (by omega)
            exact L573 _ v563 H551 hIH551 hJ562 e552 m553 m554 m555 m556 m557 m558 (by omega) q0 (fun i hi => q1 i (by omega)) (fun i hi => absurd hi (by omega)) (Nat.lt_succ_self _)
          · refine g_aload_n rfl ?_
            refine g_gfr hIH551 sm_0 rfl ?_
            refine g_iload_n rfl ?_
            refine g_aload_n rfl ?_
            refine g_gfr hIH551 sm_0 rfl ?_
            refine g_iload_n rfl ?_
            refine g_iaload hIH551 sm_2 rfl (by omega) (fun v600 ev600 lv600 uv600 => ?_)
            refine g_iastore hIH551 sm_3 (by omega) (gz_any _) (fun H601 eH601 hIH601 => ?_)
            have e602 : k0_2 = fZ H601 0 2 := by rw [eH601, fZ_sA]; exact e552
            have m603 : ∀ i, aZ H601 1 i = aZ H 1 i := fun i => (by rw [eH601, aZ_sA_nc (by omega)] : aZ H601 1 i = aZ H551 1 i).trans (m553 i)
            have m604 : ∀ i, aZ H601 2 i = aZ H 2 i := fun i => (by rw [eH601, aZ_sA_nc (by omega)] : aZ H601 2 i = aZ H551 2 i).trans (m554 i)
            have m605 : ∀ i, aZ H601 5 i = aZ H 5 i := fun i => (by rw [eH601, aZ_sA_nc (by omega)] : aZ H601 5 i = aZ H551 5 i).trans (m555 i)
            have m606 : ∀ i, aZ H601 7 i = aZ H 7 i := fun i => (by rw [eH601, aZ_sA_nc (by omega)] : aZ H601 7 i = aZ H551 7 i).trans (m556 i)
            have m607 : ∀ i, aZ H601 8 i = aZ H 8 i := fun i => (by rw [eH601, aZ_sA_nc (by omega)] : aZ H601 8 i = aZ H551 8 i).trans (m557 i)
            have m608 : ∀ i, aZ H601 9 i = aZ H 9 i := fun i => (by rw [eH601, aZ_sA_nc (by omega)] : aZ H601 9 i = aZ H551 9 i).trans (m558 i)
            have ie602 : k0_2.toInt = (fZ H601 0 2).toInt := by rw [← e602]
            refine g_iinc (l' := (fun v609 => [(0, .ref 0), (1, .int a1), (2, .int v609)])) rfl rfl (by decide) (by omega) (fun _ => rfl) (fun v609 ev609 => ?_)
            refine g_goto ?_
            exact ihL559 v609 H601 hIH601 e602 m603 m604 m605 m606 m607 m608 (by omega) (fun f hf => by rw [eH601, fZ_sA]; exact q0 f hf) (fun q hq => by rw [eH601]; if e : v550.toInt.toNat = q then (subst e; rw [aZ_sA_eq hIH551 sm_3 (by omega), ev600, m554]) else (rw [aZ_sA_ne e]; exact q1 q (by omega))) (by omega)
      exact L559 _ v549 H538 hIH538 e539 m540 m541 m542 m544 m545 m546 (by omega) (fun f hf => by rw [eH538, fZ_sF_ne (Ne.symm hf)]) (fun q hq => absurd hq (by omega)) (Nat.lt_succ_self _)
    · refine g_nop ?_
      exfalso; omega
