set_option maxRecDepth 4000 in
set_option maxHeartbeats 4000000 in
/-- M.changed -/
theorem r_221 (a1 : Int32) (H : mzH) (hI : gI SM H) (hJ : JN H) (hp0 : ((∀ A, tkQ H A → gdM A))) (hp1 : (∀ k : Nat, (k : Int) < (aZ H 2 2).toInt → 0 ≤ (aZ H 2 (69 + 5 * k)).toInt ∧ (aZ H 2 (69 + 5 * k)).toInt ≤ 999)) : gCall 221 [.ref 0, .int a1] H (gRi (fun v H' => gI SM H' ∧ JN H' ∧ fZ H' 0 2 = fZ H 0 2 ∧ kpM H H' ∧ ((v.toInt = -1 ∧ ¬ (0 ≤ a1.toInt ∧ a1.toInt < (aZ H 2 2).toInt)) ∨ ((0 ≤ a1.toInt ∧ a1.toInt < (aZ H 2 2).toInt) ∧ (∃ A : mzH, tkQ H A ∧ (∀ q : Nat, (q : Int) < (aZ H 2 2).toInt → (inM A q ≠ 0 ↔ (q : Int) < a1.toInt) ∧ hoM A q = (aZ H 2 (69 + 5 * q)).toInt) ∧ ∃ G : mzH, clR (rgM G) (mdM G) ∧ ∃ B : mzH, tkQ H B ∧ (∀ q : Nat, (q : Int) < (aZ H 2 2).toInt → (inM B q ≠ 0 ↔ (q : Int) < a1.toInt + 1) ∧ hoM B q = (aZ H 2 (69 + 5 * q)).toInt) ∧ ∃ K : mzH, clR (rgM K) (mdM K) ∧ v.toInt = cnt (fun x => ¬ whM (fM A G (cnM A)).1 (fM A G (cnM A)).2 x = whM (fM B K (cnM B)).1 (fM B K (cnM B)).2 x) 40))))) := by
  obtain ⟨k0_2, ek0_2⟩ : ∃ z, z = fZ H 0 2 := ⟨_, rfl⟩
  have ik0_2 : k0_2.toInt = (fZ H 0 2).toInt := by rw [← ek0_2]
  have bk0_2 : 0 ≤ k0_2.toInt ∧ k0_2.toInt ≤ 900 := by rw [ek0_2]; exact fZ_of hI sm_0 rfl
  have mkfr : kpM H H := kpM_r
  refine gG_call [(0, .ref 0), (1, .int a1)] ⟨rfl, rfl, trivial⟩ ?_
  show gG 4 zB_221 (mzBlk zB_221 0) [(0, .ref 0), (1, .int a1)] [] H 0 0 _
  refine g_aload_n rfl ?_
  refine g_iconst (by decide) (fun v791 kv791 => ?_)
  refine g_pfi hI sm_0 rfl (gz_any _) (fun H792 eH792 hIH792 => ?_)
  have hJH792 : JN H792 := JN_sF eH792 hJ
  have e793 : k0_2 = fZ H792 0 2 := by rw [eH792, fZ_sF_ne (by decide)]; exact ek0_2
  have m794 : kpM H H792 := kpM_F mkfr eH792 (by omega)
  refine g_iload_n rfl ?_
  refine g_if_lt (fun c795 => ?_) (fun c795 => ?_)
  · refine g_iconst (by decide) (fun v796 kv796 => ?_)
    exact g_iret ⟨_, rfl, hIH792, hJH792, (e793.symm.trans ek0_2), m794, (Or.inl ⟨by omega, by omega⟩)⟩
  · refine g_iload_n rfl ?_
    refine g_aload_n rfl ?_
    refine g_invvi hIH792 sm_0 rfl rfl rfl rfl (s_180 H792 hIH792 hJH792) (fun v799 H797 r798 => ?_)
    obtain ⟨rfl, bv799, p800⟩ := r798
    have hm2 := congrArg Int32.toInt (m794.1 2 (by decide) 2)
    refine g_if2_lt (fun c801 => ?_) (fun c801 => ?_)
    · refine g_aload_n rfl ?_
      refine g_iload_n rfl ?_
      refine g_invvv hIH792 sm_0 rfl rfl rfl rfl (r_219 a1 (by omega) H792 hIH792 hJH792 (fun A t => hp0 A (tkQ_kp m794 t)) (hr_kp m794 hp1)) (fun H802 r803 => ?_)
      obtain ⟨hIH802, hJH802, w804, m805, m806, p807⟩ := r803
      have e808 : k0_2 = fZ H802 0 2 := e793.trans w804.symm
      have m809 : kpM H H802 := kpM_t m794 m805
      obtain ⟨A810, ttA810, sbA810, G811, clG811, wdA810, wyA810, oiA810⟩ := p807
      have uA810 : tkQ H A810 := tkQ_kp m794 ttA810
      have scA810 := sb_kp m794 sbA810
      obtain ⟨dppA810, lapA810⟩ := (hp0 A810 uA810).2 G811 clG811 (cnM A810) (Nat.le_refl _)
      refine g_iconst (by decide) (fun v812 kv812 => ?_)
      refine g_istore_n (l' := [(0, .ref 0), (1, .int a1), (2, .int v812)]) rfl rfl ?_
      refine g_nop ?_
      have L817 : ∀ (N : Nat) (v813 : Int32) (H814 : mzH), gI SM H814 → JM H814 → k0_2 = fZ H814 0 2 → kpM H H814 → (0 ≤ v813.toInt ∧ v813.toInt ≤ 40) → rwX H814 (fM A810 G811 (cnM A810)).1 (fM A810 G811 (cnM A810)).2 → (∀ q : Nat, q < v813.toInt.toNat → (aZ H814 24 q).toInt = whM (fM A810 G811 (cnM A810)).1 (fM A810 G811 (cnM A810)).2 q) → (40 - v813.toInt).toNat < N → gG 4 zB_221 (mzBlk zB_221 3) [(0, .ref 0), (1, .int a1), (2, .int v813)] [] H814 0 0 (gRi (fun v H' => gI SM H' ∧ JN H' ∧ fZ H' 0 2 = fZ H 0 2 ∧ kpM H H' ∧ ((v.toInt = -1 ∧ ¬ (0 ≤ a1.toInt ∧ a1.toInt < (aZ H 2 2).toInt)) ∨ ((0 ≤ a1.toInt ∧ a1.toInt < (aZ H 2 2).toInt) ∧ (∃ A : mzH, tkQ H A ∧ (∀ q : Nat, (q : Int) < (aZ H 2 2).toInt → (inM A q ≠ 0 ↔ (q : Int) < a1.toInt) ∧ hoM A q = (aZ H 2 (69 + 5 * q)).toInt) ∧ ∃ G : mzH, clR (rgM G) (mdM G) ∧ ∃ B : mzH, tkQ H B ∧ (∀ q : Nat, (q : Int) < (aZ H 2 2).toInt → (inM B q ≠ 0 ↔ (q : Int) < a1.toInt + 1) ∧ hoM B q = (aZ H 2 (69 + 5 * q)).toInt) ∧ ∃ K : mzH, clR (rgM K) (mdM K) ∧ v.toInt = cnt (fun x => ¬ whM (fM A G (cnM A)).1 (fM A G (cnM A)).2 x = whM (fM B K (cnM B)).1 (fM B K (cnM B)).2 x) 40))))) := by
        intro N
        induction N with
        | zero => intro v813 H814 hIH814 hJH814 e815 m816 bv813 q5 q6 hmL817; exact absurd hmL817 (Nat.not_lt_zero _)
        | succ N ihL817 =>
          intro v813 H814 hIH814 hJH814 e815 m816 bv813 q5 q6 hmL817
          refine g_iload_n rfl ?_
          refine g_bipush (by decide) (fun v818 kv818 => ?_)
          refine g_if2_ge (fun c819 => ?_) (fun c819 => ?_)
          · have k24 : ∀ q : Nat, q < 40 → (aZ H814 24 q).toInt = whM (fM A810 G811 (cnM A810)).1 (fM A810 G811 (cnM A810)).2 q := fun q hq => q6 q (by omega)
            refine g_aload_n rfl ?_
            refine g_iload_n rfl ?_
            refine g_iconst (by decide) (fun v820 kv820 => ?_)
            refine g_iadd (by omega) (fun v821 ev821 => ?_)
            refine g_invvv hIH814 sm_0 rfl rfl rfl rfl (r_219 v821 (by omega) H814 hIH814 (JM_n hJH814) (fun A t => hp0 A (tkQ_kp m816 t)) (hr_kp m816 hp1)) (fun H822 r823 => ?_)
            obtain ⟨hIH822, hJH822, w824, m825, m826, p827⟩ := r823
            have e828 : k0_2 = fZ H822 0 2 := e815.trans w824.symm
            have m829 : kpM H H822 := kpM_t m816 m825
            have xm830 : (∀ i, aZ H822 24 i = aZ H814 24 i) := fun i => (m826 i : aZ H822 24 i = aZ H814 24 i).trans ((fun _ => rfl) i)
            obtain ⟨A831, ttA831, sbA831, G832, clG832, wdA831, wyA831, oiA831⟩ := p827
            have uA831 : tkQ H A831 := tkQ_kp m816 ttA831
            have scA831 := sb_kp m816 sbA831
            obtain ⟨dppA831, lapA831⟩ := (hp0 A831 uA831).2 G832 clG832 (cnM A831) (Nat.le_refl _)
            refine g_iconst (by decide) (fun v833 kv833 => ?_)
            refine g_istore_n (l' := [(0, .ref 0), (1, .int a1), (2, .int v833)]) rfl rfl ?_
            refine g_iconst (by decide) (fun v834 kv834 => ?_)
            refine g_istore_n (l' := [(0, .ref 0), (1, .int a1), (2, .int v833), (3, .int v834)]) rfl rfl ?_
            refine g_nop ?_
            have L838 : ∀ (N : Nat) (v835 : Int32) (v836 : Int32), (0 ≤ v836.toInt ∧ v836.toInt ≤ 40) → (∀ i, aZ H822 24 i = aZ H814 24 i) → v835.toInt = cnt (fun x => ¬ whM (fM A810 G811 (cnM A810)).1 (fM A810 G811 (cnM A810)).2 x = whM (fM A831 G832 (cnM A831)).1 (fM A831 G832 (cnM A831)).2 x) v836.toInt.toNat → (0 ≤ v835.toInt ∧ v835.toInt ≤ v836.toInt) → (40 - v836.toInt).toNat < N → gG 4 zB_221 (mzBlk zB_221 5) [(0, .ref 0), (1, .int a1), (2, .int v835), (3, .int v836)] [] H822 0 0 (gRi (fun v H' => gI SM H' ∧ JN H' ∧ fZ H' 0 2 = fZ H 0 2 ∧ kpM H H' ∧ ((v.toInt = -1 ∧ ¬ (0 ≤ a1.toInt ∧ a1.toInt < (aZ H 2 2).toInt)) ∨ ((0 ≤ a1.toInt ∧ a1.toInt < (aZ H 2 2).toInt) ∧ (∃ A : mzH, tkQ H A ∧ (∀ q : Nat, (q : Int) < (aZ H 2 2).toInt → (inM A q ≠ 0 ↔ (q : Int) < a1.toInt) ∧ hoM A q = (aZ H 2 (69 + 5 * q)).toInt) ∧ ∃ G : mzH, clR (rgM G) (mdM G) ∧ ∃ B : mzH, tkQ H B ∧ (∀ q : Nat, (q : Int) < (aZ H 2 2).toInt → (inM B q ≠ 0 ↔ (q : Int) < a1.toInt + 1) ∧ hoM B q = (aZ H 2 (69 + 5 * q)).toInt) ∧ ∃ K : mzH, clR (rgM K) (mdM K) ∧ v.toInt = cnt (fun x => ¬ whM (fM A G (cnM A)).1 (fM A G (cnM A)).2 x = whM (fM B K (cnM B)).1 (fM B K (cnM B)).2 x) 40))))) := by
              intro N
              induction N with
              | zero => intro v835 v836 bv836 xq837 q1 q2 hmL838; exact absurd hmL838 (Nat.not_lt_zero _)
              | succ N ihL838 =>
                intro v835 v836 bv836 xq837 q1 q2 hmL838
                refine g_iload_n rfl ?_
                refine g_bipush (by decide) (fun v839 kv839 => ?_)
                refine g_if2_ge (fun c840 => ?_) (fun c840 => ?_)
                · refine g_iload_n rfl ?_
                  exact g_iret ⟨_, rfl, hIH822, (JM_n hJH822), (e828.symm.trans ek0_2), m829, (Or.inr ⟨by omega, A810, uA810, scA810, G811, clG811, A831, uA831, fun q hq => ⟨(scA831 q hq).1.trans ⟨fun z => by omega, fun z => by omega⟩, (scA831 q hq).2⟩, G832, clG832, cn_end q1 (by omega)⟩)⟩
                · refine g_iload_n rfl ?_
                  refine g_aload_n rfl ?_
                  refine g_iload_n rfl ?_
                  refine g_invvi hIH822 sm_0 rfl rfl rfl rfl (r_201 v836 (by omega) H822 hIH822 hJH822 wdA831 dppA831) (fun v843 H841 r842 => ?_)
                  obtain ⟨rfl, bv843, p844⟩ := r842
                  refine g_aload_n rfl ?_
                  refine g_gfr hIH822 sm_0 rfl ?_
                  refine g_iload_n rfl ?_
                  refine g_iaload hIH822 sm_24 rfl (by omega) (fun v845 ev845 lv845 uv845 => ?_)
                  have yv845 : v845.toInt = whM (fM A810 G811 (cnM A810)).1 (fM A810 G811 (cnM A810)).2 v836.toInt.toNat := by rw [ev845, xq837]; exact k24 _ (by omega)
                  refine g_if2_ne (fun c846 => ?_) (fun c846 => ?_)
                  · refine g_iconst (by decide) (fun v847 kv847 => ?_)
                    refine g_nop ?_
                    refine g_iadd' (fun v848 ov848 => ?_)
                    have sv848 : v848.toInt = v835.toInt + v847.toInt := gz_add_of ov848 (by omega)
                    refine g_istore_n (l' := [(0, .ref 0), (1, .int a1), (2, .int v848), (3, .int v836)]) rfl rfl ?_
                    refine g_iinc (l' := (fun v849 => [(0, .ref 0), (1, .int a1), (2, .int v848), (3, .int v849)])) rfl rfl (by decide) (by omega) (fun _ => rfl) (fun v849 ev849 => ?_)
                    refine g_goto ?_
                    exact ihL838 v848 v849 (by omega) xq837 (cn_y q1 (by omega) (by show ¬ whM (fM A810 G811 (cnM A810)).1 (fM A810 G811 (cnM A810)).2 v836.toInt.toNat = whM (fM A831 G832 (cnM A831)).1 (fM A831 G832 (cnM A831)).2 v836.toInt.toNat; omega) (by omega)) (by omega) (by omega)
                  · refine g_iconst (by decide) (fun v850 kv850 => ?_)
                    refine g_goto ?_
                    refine g_iadd (by have := gz_any v835; omega) (fun v851 ev851 => ?_)
                    refine g_istore_n (l' := [(0, .ref 0), (1, .int a1), (2, .int v851), (3, .int v836)]) rfl rfl ?_
                    refine g_iinc (l' := (fun v852 => [(0, .ref 0), (1, .int a1), (2, .int v851), (3, .int v852)])) rfl rfl (by decide) (by omega) (fun _ => rfl) (fun v852 ev852 => ?_)
                    refine g_goto ?_
                    exact ihL838 v851 v852 (by omega) xq837 (cn_n q1 (by omega) (by show ¬ ¬ whM (fM A810 G811 (cnM A810)).1 (fM A810 G811 (cnM A810)).2 v836.toInt.toNat = whM (fM A831 G832 (cnM A831)).1 (fM A831 G832 (cnM A831)).2 v836.toInt.toNat; omega) (by omega)) (by omega) (by omega)
            exact L838 _ v833 v834 (by omega) xm830 (cn_0 (by omega) (by omega)) (by omega) (Nat.lt_succ_self _)
          · refine g_aload_n rfl ?_
            refine g_gfr hIH814 sm_0 rfl ?_
            refine g_iload_n rfl ?_
            refine g_aload_n rfl ?_
            refine g_iload_n rfl ?_
            refine g_invvi hIH814 sm_0 rfl rfl rfl rfl (r_201 v813 (by omega) H814 hIH814 hJH814 q5 dppA810) (fun v855 H853 r854 => ?_)
            obtain ⟨rfl, bv855, p856⟩ := r854
            refine g_iastore hIH814 sm_24 (by omega) (gz_any _) (fun H857 eH857 hIH857 => ?_)
            have hJH857 : JM H857 := JM_sA (by decide) eH857 hJH814
            have e858 : k0_2 = fZ H857 0 2 := by rw [eH857, fZ_sA]; exact e815
            have m859 : kpM H H857 := kpM_A m816 eH857 (by omega)
            have wdH857 : rwX H857 (fM A810 G811 (cnM A810)).1 (fM A810 G811 (cnM A810)).2 := rw_o q5 eH857 (by decide)
            refine g_iinc (l' := (fun v860 => [(0, .ref 0), (1, .int a1), (2, .int v860)])) rfl rfl (by decide) (by omega) (fun _ => rfl) (fun v860 ev860 => ?_)
            refine g_goto ?_
            exact ihL817 v860 H857 hIH857 hJH857 e858 m859 (by omega) wdH857 (fun q hq => by rw [eH857]; if e : v813.toInt.toNat = q then (subst e; rw [aZ_sA_eq hIH814 sm_24 (by omega), p856]) else (rw [aZ_sA_ne e]; exact q6 q (by omega))) (by omega)
      exact L817 _ v812 H802 hIH802 hJH802 e808 m809 (by omega) wdA810 (fun q hq => absurd hq (by omega)) (Nat.lt_succ_self _)
    · refine g_nop ?_
      refine g_iconst (by decide) (fun v861 kv861 => ?_)
      exact g_iret ⟨_, rfl, hIH792, hJH792, (e793.symm.trans ek0_2), m794, (Or.inl ⟨by omega, by omega⟩)⟩
