set_option maxRecDepth 4000 in
set_option maxHeartbeats 4000000 in
/-- M.laysWays -/
theorem e_178 (H : mzH) (hI : gI SM H) (hJ : JN H) : gCall 178 [.ref 0] H (gRv (fun H' => gI SM H' ∧ JN H' ∧ (∀ a f, fZ H' a f = fZ H a f) ∧ (∀ i, aZ H' 1 i = aZ H 1 i) ∧ (∀ i, aZ H' 2 i = aZ H 2 i) ∧ (∀ i, aZ H' 3 i = aZ H 3 i) ∧ (∀ i, aZ H' 4 i = aZ H 4 i) ∧ (∀ i, aZ H' 5 i = aZ H 5 i))) := by
  have mkF : ∀ a f, fZ H a f = fZ H a f := fun _ _ => rfl
  have mk1 : ∀ i, aZ H 1 i = aZ H 1 i := fun _ => rfl
  have mk2 : ∀ i, aZ H 2 i = aZ H 2 i := fun _ => rfl
  have mk3 : ∀ i, aZ H 3 i = aZ H 3 i := fun _ => rfl
  have mk4 : ∀ i, aZ H 4 i = aZ H 4 i := fun _ => rfl
  have mk5 : ∀ i, aZ H 5 i = aZ H 5 i := fun _ => rfl
  refine gG_call [(0, .ref 0)] ⟨rfl, trivial⟩ ?_
  show gG 5 zB_178 (mzBlk zB_178 0) [(0, .ref 0)] [] H 0 0 _
  refine g_iconst (by decide) (fun v785 kv785 => ?_)
  refine g_istore_n (l' := [(0, .ref 0), (1, .int v785)]) rfl rfl ?_
  refine g_nop ?_
  have L794 : ∀ (N : Nat) (v786 : Int32) (H787 : mzH), gI SM H787 → JN H787 → (∀ a f, fZ H787 a f = fZ H a f) → (∀ i, aZ H787 1 i = aZ H 1 i) → (∀ i, aZ H787 2 i = aZ H 2 i) → (∀ i, aZ H787 3 i = aZ H 3 i) → (∀ i, aZ H787 4 i = aZ H 4 i) → (∀ i, aZ H787 5 i = aZ H 5 i) → (0 ≤ v786.toInt ∧ v786.toInt ≤ 64) → (64 - v786.toInt).toNat < N → gG 5 zB_178 (mzBlk zB_178 1) [(0, .ref 0), (1, .int v786)] [] H787 0 0 (gRv (fun H' => gI SM H' ∧ JN H' ∧ (∀ a f, fZ H' a f = fZ H a f) ∧ (∀ i, aZ H' 1 i = aZ H 1 i) ∧ (∀ i, aZ H' 2 i = aZ H 2 i) ∧ (∀ i, aZ H' 3 i = aZ H 3 i) ∧ (∀ i, aZ H' 4 i = aZ H 4 i) ∧ (∀ i, aZ H' 5 i = aZ H 5 i))) := by
    intro N
    induction N with
    | zero => intro v786 H787 hIH787 hJH787 m788 m789 m790 m791 m792 m793 bv786 hmL794; exact absurd hmL794 (Nat.not_lt_zero _)
    | succ N ihL794 =>
      intro v786 H787 hIH787 hJH787 m788 m789 m790 m791 m792 m793 bv786 hmL794
      refine g_iload_n rfl ?_
      refine g_bipush (by decide) (fun v795 kv795 => ?_)
      refine g_if2_ge (fun c796 => ?_) (fun c796 => ?_)
      · refine g_iconst (by decide) (fun v797 kv797 => ?_)
        refine g_istore_n (l' := [(0, .ref 0), (1, .int v797)]) rfl rfl ?_
        refine g_nop ?_
        have L806 : ∀ (N : Nat) (v798 : Int32) (H799 : mzH), gI SM H799 → JN H799 → (∀ a f, fZ H799 a f = fZ H a f) → (∀ i, aZ H799 1 i = aZ H 1 i) → (∀ i, aZ H799 2 i = aZ H 2 i) → (∀ i, aZ H799 3 i = aZ H 3 i) → (∀ i, aZ H799 4 i = aZ H 4 i) → (∀ i, aZ H799 5 i = aZ H 5 i) → (0 ≤ v798.toInt ∧ v798.toInt ≤ 8) → (8 - v798.toInt).toNat < N → gG 5 zB_178 (mzBlk zB_178 3) [(0, .ref 0), (1, .int v798)] [] H799 0 0 (gRv (fun H' => gI SM H' ∧ JN H' ∧ (∀ a f, fZ H' a f = fZ H a f) ∧ (∀ i, aZ H' 1 i = aZ H 1 i) ∧ (∀ i, aZ H' 2 i = aZ H 2 i) ∧ (∀ i, aZ H' 3 i = aZ H 3 i) ∧ (∀ i, aZ H' 4 i = aZ H 4 i) ∧ (∀ i, aZ H' 5 i = aZ H 5 i))) := by
          intro N
          induction N with
          | zero => intro v798 H799 hIH799 hJH799 m800 m801 m802 m803 m804 m805 bv798 hmL806; exact absurd hmL806 (Nat.not_lt_zero _)
          | succ N ihL806 =>
            intro v798 H799 hIH799 hJH799 m800 m801 m802 m803 m804 m805 bv798 hmL806
            refine g_iload_n rfl ?_
            refine g_bipush (by decide) (fun v807 kv807 => ?_)
            refine g_if2_ge (fun c808 => ?_) (fun c808 => ?_)
            · exact g_ret ⟨rfl, hIH799, hJH799, m800, m801, m802, m803, m804, m805⟩
            · refine g_iconst (by decide) (fun v809 kv809 => ?_)
              refine g_istore_n (l' := [(0, .ref 0), (1, .int v798), (2, .int v809)]) rfl rfl ?_
              refine g_nop ?_
              have L818 : ∀ (N : Nat) (v810 : Int32) (H811 : mzH), gI SM H811 → JN H811 → (∀ a f, fZ H811 a f = fZ H a f) → (∀ i, aZ H811 1 i = aZ H 1 i) → (∀ i, aZ H811 2 i = aZ H 2 i) → (∀ i, aZ H811 3 i = aZ H 3 i) → (∀ i, aZ H811 4 i = aZ H 4 i) → (∀ i, aZ H811 5 i = aZ H 5 i) → (0 ≤ v810.toInt ∧ v810.toInt ≤ 8) → (8 - v810.toInt).toNat < N → gG 5 zB_178 (mzBlk zB_178 4) [(0, .ref 0), (1, .int v798), (2, .int v810)] [] H811 0 0 (gRv (fun H' => gI SM H' ∧ JN H' ∧ (∀ a f, fZ H' a f = fZ H a f) ∧ (∀ i, aZ H' 1 i = aZ H 1 i) ∧ (∀ i, aZ H' 2 i = aZ H 2 i) ∧ (∀ i, aZ H' 3 i = aZ H 3 i) ∧ (∀ i, aZ H' 4 i = aZ H 4 i) ∧ (∀ i, aZ H' 5 i = aZ H 5 i))) := by
                intro N
                induction N with
                | zero => intro v810 H811 hIH811 hJH811 m812 m813 m814 m815 m816 m817 bv810 hmL818; exact absurd hmL818 (Nat.not_lt_zero _)
                | succ N ihL818 =>
                  intro v810 H811 hIH811 hJH811 m812 m813 m814 m815 m816 m817 bv810 hmL818
                  refine g_iload_n rfl ?_
                  refine g_bipush (by decide) (fun v819 kv819 => ?_)
                  refine g_if2_ge (fun c820 => ?_) (fun c820 => ?_)
                  · refine g_iinc (l' := (fun v821 => [(0, .ref 0), (1, .int v821), (2, .int v810)])) rfl rfl (by decide) (by omega) (fun _ => rfl) (fun v821 ev821 => ?_)
                    refine g_goto ?_
                    refine gG_pick [0, 1] (l' := [(0, .ref 0), (1, .int v821)]) rfl ?_
                    exact ihL806 v821 H811 hIH811 hJH811 m812 m813 m814 m815 m816 m817 (by omega) (by omega)
                  · refine g_iconst (by decide) (fun v822 kv822 => ?_)
                    refine g_istore_n (l' := [(0, .ref 0), (1, .int v798), (2, .int v810), (3, .int v822)]) rfl rfl ?_
                    refine g_nop ?_
                    have L831 : ∀ (N : Nat) (v823 : Int32) (H824 : mzH), gI SM H824 → JN H824 → (∀ a f, fZ H824 a f = fZ H a f) → (∀ i, aZ H824 1 i = aZ H 1 i) → (∀ i, aZ H824 2 i = aZ H 2 i) → (∀ i, aZ H824 3 i = aZ H 3 i) → (∀ i, aZ H824 4 i = aZ H 4 i) → (∀ i, aZ H824 5 i = aZ H 5 i) → (0 ≤ v823.toInt ∧ v823.toInt ≤ 8) → (8 - v823.toInt).toNat < N → gG 5 zB_178 (mzBlk zB_178 5) [(0, .ref 0), (1, .int v798), (2, .int v810), (3, .int v823)] [] H824 0 0 (gRv (fun H' => gI SM H' ∧ JN H' ∧ (∀ a f, fZ H' a f = fZ H a f) ∧ (∀ i, aZ H' 1 i = aZ H 1 i) ∧ (∀ i, aZ H' 2 i = aZ H 2 i) ∧ (∀ i, aZ H' 3 i = aZ H 3 i) ∧ (∀ i, aZ H' 4 i = aZ H 4 i) ∧ (∀ i, aZ H' 5 i = aZ H 5 i))) := by
                      intro N
                      induction N with
                      | zero => intro v823 H824 hIH824 hJH824 m825 m826 m827 m828 m829 m830 bv823 hmL831; exact absurd hmL831 (Nat.not_lt_zero _)
                      | succ N ihL831 =>
                        intro v823 H824 hIH824 hJH824 m825 m826 m827 m828 m829 m830 bv823 hmL831
                        refine g_iload_n rfl ?_
                        refine g_bipush (by decide) (fun v832 kv832 => ?_)
                        refine g_if2_ge (fun c833 => ?_) (fun c833 => ?_)
                        · refine g_iinc (l' := (fun v834 => [(0, .ref 0), (1, .int v798), (2, .int v834), (3, .int v823)])) rfl rfl (by decide) (by omega) (fun _ => rfl) (fun v834 ev834 => ?_)
                          refine g_goto ?_
                          refine gG_pick [0, 1, 2] (l' := [(0, .ref 0), (1, .int v798), (2, .int v834)]) rfl ?_
                          exact ihL818 v834 H824 hIH824 hJH824 m825 m826 m827 m828 m829 m830 (by omega) (by omega)
                        · refine g_aload_n rfl ?_
                          refine g_gfr hIH824 sm_0 rfl ?_
                          refine g_bipush (by decide) (fun v835 kv835 => ?_)
                          refine g_iload_n rfl ?_
                          refine g_imulk' (n := 8) kv835 (by omega) (fun v836 ev836 => ?_)
                          refine g_iload_n rfl ?_
                          refine g_iadd (by omega) (fun v837 ev837 => ?_)
                          refine g_iaload hIH824 sm_6 rfl (by omega) (fun v838 ev838 lv838 uv838 => ?_)
                          refine g_aload_n rfl ?_
                          refine g_gfr hIH824 sm_0 rfl ?_
                          refine g_bipush (by decide) (fun v839 kv839 => ?_)
                          refine g_iload_n rfl ?_
                          refine g_imulk' (n := 8) kv839 (by omega) (fun v840 ev840 => ?_)
                          refine g_iload_n rfl ?_
                          refine g_iadd (by omega) (fun v841 ev841 => ?_)
                          refine g_iaload hIH824 sm_6 rfl (by omega) (fun v842 ev842 lv842 uv842 => ?_)
                          refine g_iadd' (fun v843 ov843 => ?_)
                          refine g_istore (l' := [(0, .ref 0), (1, .int v798), (2, .int v810), (3, .int v823), (4, .int v843)]) rfl rfl ?_
                          refine g_iload rfl ?_
                          refine g_aload_n rfl ?_
                          refine g_gfr hIH824 sm_0 rfl ?_
                          refine g_bipush (by decide) (fun v844 kv844 => ?_)
                          refine g_iload_n rfl ?_
                          refine g_imulk' (n := 8) kv844 (by omega) (fun v845 ev845 => ?_)
                          refine g_iload_n rfl ?_
                          refine g_iadd (by omega) (fun v846 ev846 => ?_)
                          refine g_iaload hIH824 sm_6 rfl (by omega) (fun v847 ev847 lv847 uv847 => ?_)
                          refine g_if2_ge (fun c848 => ?_) (fun c848 => ?_)
                          · refine g_iinc (l' := (fun v849 => [(0, .ref 0), (1, .int v798), (2, .int v810), (3, .int v849), (4, .int v843)])) rfl rfl (by decide) (by omega) (fun _ => rfl) (fun v849 ev849 => ?_)
                            refine g_goto ?_
                            refine gG_pick [0, 1, 2, 3] (l' := [(0, .ref 0), (1, .int v798), (2, .int v810), (3, .int v849)]) rfl ?_
                            exact ihL831 v849 H824 hIH824 hJH824 m825 m826 m827 m828 m829 m830 (by omega) (by omega)
                          · refine g_aload_n rfl ?_
                            refine g_gfr hIH824 sm_0 rfl ?_
                            refine g_bipush (by decide) (fun v850 kv850 => ?_)
                            refine g_iload_n rfl ?_
                            refine g_imulk' (n := 8) kv850 (by omega) (fun v851 ev851 => ?_)
                            refine g_iload_n rfl ?_
                            refine g_iadd (by omega) (fun v852 ev852 => ?_)
                            refine g_iload rfl ?_
                            refine g_iastore hIH824 sm_6 (by omega) (gz_any _) (fun H853 eH853 hIH853 => ?_)
                            have hJH853 : JN H853 := JN_sA (by decide) eH853 hJH824
                            have m854 : ∀ a f, fZ H853 a f = fZ H a f := fun a f => (by rw [eH853, fZ_sA] : fZ H853 a f = fZ H824 a f).trans (m825 a f)
                            have m855 : ∀ i, aZ H853 1 i = aZ H 1 i := fun i => (by rw [eH853, aZ_sA_nc (by omega)] : aZ H853 1 i = aZ H824 1 i).trans (m826 i)
                            have m856 : ∀ i, aZ H853 2 i = aZ H 2 i := fun i => (by rw [eH853, aZ_sA_nc (by omega)] : aZ H853 2 i = aZ H824 2 i).trans (m827 i)
                            have m857 : ∀ i, aZ H853 3 i = aZ H 3 i := fun i => (by rw [eH853, aZ_sA_nc (by omega)] : aZ H853 3 i = aZ H824 3 i).trans (m828 i)
                            have m858 : ∀ i, aZ H853 4 i = aZ H 4 i := fun i => (by rw [eH853, aZ_sA_nc (by omega)] : aZ H853 4 i = aZ H824 4 i).trans (m829 i)
                            have m859 : ∀ i, aZ H853 5 i = aZ H 5 i := fun i => (by rw [eH853, aZ_sA_nc (by omega)] : aZ H853 5 i = aZ H824 5 i).trans (m830 i)
                            refine g_nop ?_
                            refine g_iinc (l' := (fun v860 => [(0, .ref 0), (1, .int v798), (2, .int v810), (3, .int v860), (4, .int v843)])) rfl rfl (by decide) (by omega) (fun _ => rfl) (fun v860 ev860 => ?_)
                            refine g_goto ?_
                            refine gG_pick [0, 1, 2, 3] (l' := [(0, .ref 0), (1, .int v798), (2, .int v810), (3, .int v860)]) rfl ?_
                            exact ihL831 v860 H853 hIH853 hJH853 m854 m855 m856 m857 m858 m859 (by omega) (by omega)
                    exact L831 _ v822 H811 hIH811 hJH811 m812 m813 m814 m815 m816 m817 (by omega) (Nat.lt_succ_self _)
              exact L818 _ v809 H799 hIH799 hJH799 m800 m801 m802 m803 m804 m805 (by omega) (Nat.lt_succ_self _)
        exact L806 _ v797 H787 hIH787 hJH787 m788 m789 m790 m791 m792 m793 (by omega) (Nat.lt_succ_self _)
      · refine g_aload_n rfl ?_
        refine g_gfr hIH787 sm_0 rfl ?_
        refine g_iload_n rfl ?_
        refine g_aload_n rfl ?_
        refine g_gfr hIH787 sm_0 rfl ?_
        refine g_iconst (by decide) (fun v861 kv861 => ?_)
        refine g_iload_n rfl ?_
        refine g_iadd (by omega) (fun v862 ev862 => ?_)
        refine g_iaload hIH787 sm_2 rfl (by omega) (fun v863 ev863 lv863 uv863 => ?_)
        refine g_iastore hIH787 sm_6 (by omega) (gz_any _) (fun H864 eH864 hIH864 => ?_)
        have hJH864 : JN H864 := JN_sA (by decide) eH864 hJH787
        have m865 : ∀ a f, fZ H864 a f = fZ H a f := fun a f => (by rw [eH864, fZ_sA] : fZ H864 a f = fZ H787 a f).trans (m788 a f)
        have m866 : ∀ i, aZ H864 1 i = aZ H 1 i := fun i => (by rw [eH864, aZ_sA_nc (by omega)] : aZ H864 1 i = aZ H787 1 i).trans (m789 i)
        have m867 : ∀ i, aZ H864 2 i = aZ H 2 i := fun i => (by rw [eH864, aZ_sA_nc (by omega)] : aZ H864 2 i = aZ H787 2 i).trans (m790 i)
        have m868 : ∀ i, aZ H864 3 i = aZ H 3 i := fun i => (by rw [eH864, aZ_sA_nc (by omega)] : aZ H864 3 i = aZ H787 3 i).trans (m791 i)
        have m869 : ∀ i, aZ H864 4 i = aZ H 4 i := fun i => (by rw [eH864, aZ_sA_nc (by omega)] : aZ H864 4 i = aZ H787 4 i).trans (m792 i)
        have m870 : ∀ i, aZ H864 5 i = aZ H 5 i := fun i => (by rw [eH864, aZ_sA_nc (by omega)] : aZ H864 5 i = aZ H787 5 i).trans (m793 i)
        refine g_iinc (l' := (fun v871 => [(0, .ref 0), (1, .int v871)])) rfl rfl (by decide) (by omega) (fun _ => rfl) (fun v871 ev871 => ?_)
        refine g_goto ?_
        exact ihL794 v871 H864 hIH864 hJH864 m865 m866 m867 m868 m869 m870 (by omega) (by omega)
  exact L794 _ v785 H hI hJ mkF mk1 mk2 mk3 mk4 mk5 (by omega) (Nat.lt_succ_self _)
set_option maxRecDepth 4000 in
set_option maxHeartbeats 4000000 in
/-- M.becomes -/
theorem e_174 (H : mzH) (hI : gI SM H) (hJ : JN H) : gCall 174 [.ref 0] H (gRv (fun H' => gI SM H' ∧ JN H' ∧ fZ H' 0 2 = fZ H 0 2 ∧ (∀ i, i < 369 → aZ H' 2 i = aZ H 3 i) ∧ (∀ i, i < 8 → aZ H' 5 i = aZ H 4 i) ∧ (∀ f, f ≠ 18 → fZ H' 0 f = fZ H 0 f) ∧ fZ H' 0 18 = fZ H 0 17 ∧ (∀ i, aZ H' 1 i = aZ H 1 i))) := by
  obtain ⟨k0_2, ek0_2⟩ : ∃ z, z = fZ H 0 2 := ⟨_, rfl⟩
  have ik0_2 : k0_2.toInt = (fZ H 0 2).toInt := by rw [← ek0_2]
  have bk0_2 : 0 ≤ k0_2.toInt ∧ k0_2.toInt ≤ 900 := by rw [ek0_2]; exact fZ_of hI sm_0 rfl
  have mkF : ∀ a f, fZ H a f = fZ H a f := fun _ _ => rfl
  have mk1 : ∀ i, aZ H 1 i = aZ H 1 i := fun _ => rfl
  have mk3 : ∀ i, aZ H 3 i = aZ H 3 i := fun _ => rfl
  have mk4 : ∀ i, aZ H 4 i = aZ H 4 i := fun _ => rfl
  have mk7 : ∀ i, aZ H 7 i = aZ H 7 i := fun _ => rfl
  have mk8 : ∀ i, aZ H 8 i = aZ H 8 i := fun _ => rfl
  have mk9 : ∀ i, aZ H 9 i = aZ H 9 i := fun _ => rfl
  refine gG_call [(0, .ref 0)] ⟨rfl, trivial⟩ ?_
  show gG 2 zB_174 (mzBlk zB_174 0) [(0, .ref 0)] [] H 0 0 _
  refine g_iconst (by decide) (fun v483 kv483 => ?_)
  refine g_istore_n (l' := [(0, .ref 0), (1, .int v483)]) rfl rfl ?_
  refine g_nop ?_
  have L494 : ∀ (N : Nat) (v484 : Int32) (H485 : mzH), gI SM H485 → k0_2 = fZ H485 0 2 → (∀ a f, fZ H485 a f = fZ H a f) → (∀ i, aZ H485 1 i = aZ H 1 i) → (∀ i, aZ H485 3 i = aZ H 3 i) → (∀ i, aZ H485 4 i = aZ H 4 i) → (∀ i, aZ H485 7 i = aZ H 7 i) → (∀ i, aZ H485 8 i = aZ H 8 i) → (∀ i, aZ H485 9 i = aZ H 9 i) → (0 ≤ v484.toInt ∧ v484.toInt ≤ 369) → (∀ i, i < v484.toInt.toNat → aZ H485 2 i = aZ H 3 i) → (369 - v484.toInt).toNat < N → gG 2 zB_174 (mzBlk zB_174 1) [(0, .ref 0), (1, .int v484)] [] H485 0 0 (gRv (fun H' => gI SM H' ∧ JN H' ∧ fZ H' 0 2 = fZ H 0 2 ∧ (∀ i, i < 369 → aZ H' 2 i = aZ H 3 i) ∧ (∀ i, i < 8 → aZ H' 5 i = aZ H 4 i) ∧ (∀ f, f ≠ 18 → fZ H' 0 f = fZ H 0 f) ∧ fZ H' 0 18 = fZ H 0 17 ∧ (∀ i, aZ H' 1 i = aZ H 1 i))) := by
    intro N
    induction N with
    | zero => intro v484 H485 hIH485 e486 m487 m488 m489 m490 m491 m492 m493 bv484 q1 hmL494; exact absurd hmL494 (Nat.not_lt_zero _)
    | succ N ihL494 =>
      intro v484 H485 hIH485 e486 m487 m488 m489 m490 m491 m492 m493 bv484 q1 hmL494
      refine g_iload_n rfl ?_
      refine g_sipush (by decide) (fun v495 kv495 => ?_)
      refine g_if2_ge (fun c496 => ?_) (fun c496 => ?_)
      · have hJ497 : JN H485 := JN_cp2 hJ (fun i hi => q1 i (by omega)) m489
        refine g_iconst (by decide) (fun v498 kv498 => ?_)
        refine g_istore_n (l' := [(0, .ref 0), (1, .int v498)]) rfl rfl ?_
        refine g_nop ?_
        have L509 : ∀ (N : Nat) (v499 : Int32) (H500 : mzH), gI SM H500 → JN H500 → k0_2 = fZ H500 0 2 → (∀ a f, fZ H500 a f = fZ H a f) → (∀ i, aZ H500 1 i = aZ H 1 i) → (∀ i, aZ H500 3 i = aZ H 3 i) → (∀ i, aZ H500 4 i = aZ H 4 i) → (∀ i, aZ H500 7 i = aZ H 7 i) → (∀ i, aZ H500 8 i = aZ H 8 i) → (∀ i, aZ H500 9 i = aZ H 9 i) → (0 ≤ v499.toInt ∧ v499.toInt ≤ 8) → (∀ i, i < 369 → aZ H500 2 i = aZ H 3 i) → (∀ i, i < v499.toInt.toNat → aZ H500 5 i = aZ H 4 i) → (8 - v499.toInt).toNat < N → gG 2 zB_174 (mzBlk zB_174 3) [(0, .ref 0), (1, .int v499)] [] H500 0 0 (gRv (fun H' => gI SM H' ∧ JN H' ∧ fZ H' 0 2 = fZ H 0 2 ∧ (∀ i, i < 369 → aZ H' 2 i = aZ H 3 i) ∧ (∀ i, i < 8 → aZ H' 5 i = aZ H 4 i) ∧ (∀ f, f ≠ 18 → fZ H' 0 f = fZ H 0 f) ∧ fZ H' 0 18 = fZ H 0 17 ∧ (∀ i, aZ H' 1 i = aZ H 1 i))) := by
          intro N
          induction N with
          | zero => intro v499 H500 hIH500 hJH500 e501 m502 m503 m504 m505 m506 m507 m508 bv499 q1 q2 hmL509; exact absurd hmL509 (Nat.not_lt_zero _)
          | succ N ihL509 =>
            intro v499 H500 hIH500 hJH500 e501 m502 m503 m504 m505 m506 m507 m508 bv499 q1 q2 hmL509
            refine g_iload_n rfl ?_
            refine g_bipush (by decide) (fun v510 kv510 => ?_)
            refine g_if2_ge (fun c511 => ?_) (fun c511 => ?_)
            · refine g_aload_n rfl ?_
              refine g_aload_n rfl ?_
              refine g_gfi hIH500 sm_0 rfl (fun v512 ev512 lv512 uv512 => ?_)
              refine g_pfz hIH500 sm_0 rfl (by omega) (fun H513 eH513 hIH513 => ?_)
              have hJH513 : JN H513 := JN_sF eH513 hJH500
              have e514 : k0_2 = fZ H513 0 2 := by rw [eH513, fZ_sF_ne (by decide)]; exact e501
              have m516 : ∀ i, aZ H513 1 i = aZ H 1 i := fun i => (by rw [eH513, aZ_sF] : aZ H513 1 i = aZ H500 1 i).trans (m503 i)
              have m517 : ∀ i, aZ H513 3 i = aZ H 3 i := fun i => (by rw [eH513, aZ_sF] : aZ H513 3 i = aZ H500 3 i).trans (m504 i)
              have m518 : ∀ i, aZ H513 4 i = aZ H 4 i := fun i => (by rw [eH513, aZ_sF] : aZ H513 4 i = aZ H500 4 i).trans (m505 i)
              have m519 : ∀ i, aZ H513 7 i = aZ H 7 i := fun i => (by rw [eH513, aZ_sF] : aZ H513 7 i = aZ H500 7 i).trans (m506 i)
              have m520 : ∀ i, aZ H513 8 i = aZ H 8 i := fun i => (by rw [eH513, aZ_sF] : aZ H513 8 i = aZ H500 8 i).trans (m507 i)
              have m521 : ∀ i, aZ H513 9 i = aZ H 9 i := fun i => (by rw [eH513, aZ_sF] : aZ H513 9 i = aZ H500 9 i).trans (m508 i)
              refine g_aload_n rfl ?_
              refine g_invvv hIH513 sm_0 rfl rfl rfl rfl (e_178 H513 hIH513 hJH513) (fun H522 r523 => ?_)
              obtain ⟨hIH522, hJH522, m524, m525, m526, m527, m528, m529⟩ := r523
              have e530 : k0_2 = fZ H522 0 2 := e514.trans (m524 0 2).symm
              have m531 : ∀ i, aZ H522 1 i = aZ H 1 i := fun i => (m525 i).trans (m516 i)
              have m532 : ∀ i, aZ H522 3 i = aZ H 3 i := fun i => (m527 i).trans (m517 i)
              have m533 : ∀ i, aZ H522 4 i = aZ H 4 i := fun i => (m528 i).trans (m518 i)
              exact g_ret ⟨rfl, hIH522, hJH522, (e530.symm.trans ek0_2), (fun i hi => (m526 i).trans ((by rw [eH513, aZ_sF] : aZ H513 2 i = aZ H500 2 i).trans (q1 i hi))), (fun i hi => (m529 i).trans ((by rw [eH513, aZ_sF] : aZ H513 5 i = aZ H500 5 i).trans (q2 i (by omega)))), (fun f hf => (m524 0 f).trans ((by rw [eH513, fZ_sF_ne (Ne.symm hf)] : fZ H513 0 f = fZ H500 0 f).trans (m502 0 f))), ((m524 0 18).trans ((by rw [eH513, fZ_sF_eq hIH500 sm_0 rfl] : fZ H513 0 18 = v512).trans (ev512.trans (m502 0 17)))), m531⟩
            · refine g_aload_n rfl ?_
              refine g_gfr hIH500 sm_0 rfl ?_
              refine g_iload_n rfl ?_
              refine g_aload_n rfl ?_
              refine g_gfr hIH500 sm_0 rfl ?_
              refine g_iload_n rfl ?_
              refine g_iaload hIH500 sm_4 rfl (by omega) (fun v534 ev534 lv534 uv534 => ?_)
              refine g_iastore hIH500 sm_5 (by omega) (gz_any _) (fun H535 eH535 hIH535 => ?_)
              have hJH535 : JN H535 := JN_sA (by decide) eH535 hJH500
              have e536 : k0_2 = fZ H535 0 2 := by rw [eH535, fZ_sA]; exact e501
              have m537 : ∀ a f, fZ H535 a f = fZ H a f := fun a f => (by rw [eH535, fZ_sA] : fZ H535 a f = fZ H500 a f).trans (m502 a f)
              have m538 : ∀ i, aZ H535 1 i = aZ H 1 i := fun i => (by rw [eH535, aZ_sA_nc (by omega)] : aZ H535 1 i = aZ H500 1 i).trans (m503 i)
              have m539 : ∀ i, aZ H535 3 i = aZ H 3 i := fun i => (by rw [eH535, aZ_sA_nc (by omega)] : aZ H535 3 i = aZ H500 3 i).trans (m504 i)
              have m540 : ∀ i, aZ H535 4 i = aZ H 4 i := fun i => (by rw [eH535, aZ_sA_nc (by omega)] : aZ H535 4 i = aZ H500 4 i).trans (m505 i)
              have m541 : ∀ i, aZ H535 7 i = aZ H 7 i := fun i => (by rw [eH535, aZ_sA_nc (by omega)] : aZ H535 7 i = aZ H500 7 i).trans (m506 i)
              have m542 : ∀ i, aZ H535 8 i = aZ H 8 i := fun i => (by rw [eH535, aZ_sA_nc (by omega)] : aZ H535 8 i = aZ H500 8 i).trans (m507 i)
              have m543 : ∀ i, aZ H535 9 i = aZ H 9 i := fun i => (by rw [eH535, aZ_sA_nc (by omega)] : aZ H535 9 i = aZ H500 9 i).trans (m508 i)
              refine g_iinc (l' := (fun v544 => [(0, .ref 0), (1, .int v544)])) rfl rfl (by decide) (by omega) (fun _ => rfl) (fun v544 ev544 => ?_)
              refine g_goto ?_
              exact ihL509 v544 H535 hIH535 hJH535 e536 m537 m538 m539 m540 m541 m542 m543 (by omega) (fun i hi => by rw [eH535, aZ_sA_nc (by decide)]; exact q1 i hi) (fun q hq => by rw [eH535]; if e : v499.toInt.toNat = q then (subst e; rw [aZ_sA_eq hIH500 sm_5 (by omega), ev534, m505]) else (rw [aZ_sA_ne e]; exact q2 q (by omega))) (by omega)
        exact L509 _ v498 H485 hIH485 hJ497 e486 m487 m488 m489 m490 m491 m492 m493 (by omega) (fun i hi => q1 i (by omega)) (fun i hi => absurd hi (by omega)) (Nat.lt_succ_self _)
      · refine g_aload_n rfl ?_
        refine g_gfr hIH485 sm_0 rfl ?_
        refine g_iload_n rfl ?_
        refine g_aload_n rfl ?_
        refine g_gfr hIH485 sm_0 rfl ?_
        refine g_iload_n rfl ?_
        refine g_iaload hIH485 sm_3 rfl (by omega) (fun v545 ev545 lv545 uv545 => ?_)
        refine g_iastore hIH485 sm_2 (by omega) (gz_any _) (fun H546 eH546 hIH546 => ?_)
        have e547 : k0_2 = fZ H546 0 2 := by rw [eH546, fZ_sA]; exact e486
        have m548 : ∀ a f, fZ H546 a f = fZ H a f := fun a f => (by rw [eH546, fZ_sA] : fZ H546 a f = fZ H485 a f).trans (m487 a f)
        have m549 : ∀ i, aZ H546 1 i = aZ H 1 i := fun i => (by rw [eH546, aZ_sA_nc (by omega)] : aZ H546 1 i = aZ H485 1 i).trans (m488 i)
        have m550 : ∀ i, aZ H546 3 i = aZ H 3 i := fun i => (by rw [eH546, aZ_sA_nc (by omega)] : aZ H546 3 i = aZ H485 3 i).trans (m489 i)
        have m551 : ∀ i, aZ H546 4 i = aZ H 4 i := fun i => (by rw [eH546, aZ_sA_nc (by omega)] : aZ H546 4 i = aZ H485 4 i).trans (m490 i)
        have m552 : ∀ i, aZ H546 7 i = aZ H 7 i := fun i => (by rw [eH546, aZ_sA_nc (by omega)] : aZ H546 7 i = aZ H485 7 i).trans (m491 i)
        have m553 : ∀ i, aZ H546 8 i = aZ H 8 i := fun i => (by rw [eH546, aZ_sA_nc (by omega)] : aZ H546 8 i = aZ H485 8 i).trans (m492 i)
        have m554 : ∀ i, aZ H546 9 i = aZ H 9 i := fun i => (by rw [eH546, aZ_sA_nc (by omega)] : aZ H546 9 i = aZ H485 9 i).trans (m493 i)
        refine g_iinc (l' := (fun v555 => [(0, .ref 0), (1, .int v555)])) rfl rfl (by decide) (by omega) (fun _ => rfl) (fun v555 ev555 => ?_)
        refine g_goto ?_
        exact ihL494 v555 H546 hIH546 e547 m548 m549 m550 m551 m552 m553 m554 (by omega) (fun q hq => by rw [eH546]; if e : v484.toInt.toNat = q then (subst e; rw [aZ_sA_eq hIH485 sm_2 (by omega), ev545, m489]) else (rw [aZ_sA_ne e]; exact q1 q (by omega))) (by omega)
  exact L494 _ v483 H hI ek0_2 mkF mk1 mk3 mk4 mk7 mk8 mk9 (by omega) (fun q hq => absurd hq (by omega)) (Nat.lt_succ_self _)
set_option maxRecDepth 4000 in
set_option maxHeartbeats 4000000 in
/-- M.freshText -/
theorem e_172 (H : mzH) (hI : gI SM H) (hJ : JN H) : gCall 172 [.ref 0] H (gRv (fun H' => gI SM H' ∧ JN H' ∧ fZ H' 0 2 = fZ H 0 2 ∧ (∀ i, aZ H' 1 i = aZ H 1 i) ∧ (∀ i, aZ H' 2 i = aZ H 2 i) ∧ (∀ i, aZ H' 5 i = aZ H 5 i) ∧ (∀ i, aZ H' 6 i = aZ H 6 i) ∧ (aZ H' 3 0).toInt = 0 ∧ (aZ H' 3 1).toInt = 0 ∧ (aZ H' 3 2).toInt = 0 ∧ (aZ H' 3 3).toInt = 10 ∧ (aZ H' 3 4).toInt = 10 ∧ (fZ H' 0 17).toInt = 0 ∧ (∀ f, f ≠ 17 → fZ H' 0 f = fZ H 0 f))) := by
  obtain ⟨k0_2, ek0_2⟩ : ∃ z, z = fZ H 0 2 := ⟨_, rfl⟩
  have ik0_2 : k0_2.toInt = (fZ H 0 2).toInt := by rw [← ek0_2]
  have bk0_2 : 0 ≤ k0_2.toInt ∧ k0_2.toInt ≤ 900 := by rw [ek0_2]; exact fZ_of hI sm_0 rfl
  have mk1 : ∀ i, aZ H 1 i = aZ H 1 i := fun _ => rfl
  have mk2 : ∀ i, aZ H 2 i = aZ H 2 i := fun _ => rfl
  have mk5 : ∀ i, aZ H 5 i = aZ H 5 i := fun _ => rfl
  have mk6 : ∀ i, aZ H 6 i = aZ H 6 i := fun _ => rfl
  have mkF : ∀ a f, fZ H a f = fZ H a f := fun _ _ => rfl
  have mk7 : ∀ i, aZ H 7 i = aZ H 7 i := fun _ => rfl
  have mk8 : ∀ i, aZ H 8 i = aZ H 8 i := fun _ => rfl
  have mk9 : ∀ i, aZ H 9 i = aZ H 9 i := fun _ => rfl
  refine gG_call [(0, .ref 0)] ⟨rfl, trivial⟩ ?_
  show gG 2 zB_172 (mzBlk zB_172 0) [(0, .ref 0)] [] H 0 0 _
  refine g_iconst (by decide) (fun v959 kv959 => ?_)
  refine g_istore_n (l' := [(0, .ref 0), (1, .int v959)]) rfl rfl ?_
  refine g_nop ?_
  have L971 : ∀ (N : Nat) (v960 : Int32) (H961 : mzH), gI SM H961 → k0_2 = fZ H961 0 2 → (∀ i, aZ H961 1 i = aZ H 1 i) → (∀ i, aZ H961 2 i = aZ H 2 i) → (∀ i, aZ H961 5 i = aZ H 5 i) → (∀ i, aZ H961 6 i = aZ H 6 i) → (∀ a f, fZ H961 a f = fZ H a f) → (∀ i, aZ H961 7 i = aZ H 7 i) → (∀ i, aZ H961 8 i = aZ H 8 i) → (∀ i, aZ H961 9 i = aZ H 9 i) → (0 ≤ v960.toInt ∧ v960.toInt ≤ 369) → (∀ i, i < v960.toInt.toNat → (aZ H961 3 i).toInt = 0) → (369 - v960.toInt).toNat < N → gG 2 zB_172 (mzBlk zB_172 1) [(0, .ref 0), (1, .int v960)] [] H961 0 0 (gRv (fun H' => gI SM H' ∧ JN H' ∧ fZ H' 0 2 = fZ H 0 2 ∧ (∀ i, aZ H' 1 i = aZ H 1 i) ∧ (∀ i, aZ H' 2 i = aZ H 2 i) ∧ (∀ i, aZ H' 5 i = aZ H 5 i) ∧ (∀ i, aZ H' 6 i = aZ H 6 i) ∧ (aZ H' 3 0).toInt = 0 ∧ (aZ H' 3 1).toInt = 0 ∧ (aZ H' 3 2).toInt = 0 ∧ (aZ H' 3 3).toInt = 10 ∧ (aZ H' 3 4).toInt = 10 ∧ (fZ H' 0 17).toInt = 0 ∧ (∀ f, f ≠ 17 → fZ H' 0 f = fZ H 0 f))) := by
    intro N
    induction N with
    | zero => intro v960 H961 hIH961 e962 m963 m964 m965 m966 m967 m968 m969 m970 bv960 q1 hmL971; exact absurd hmL971 (Nat.not_lt_zero _)
    | succ N ihL971 =>
      intro v960 H961 hIH961 e962 m963 m964 m965 m966 m967 m968 m969 m970 bv960 q1 hmL971
      refine g_iload_n rfl ?_
      refine g_sipush (by decide) (fun v972 kv972 => ?_)
      refine g_if2_ge (fun c973 => ?_) (fun c973 => ?_)
      · have hJ974 : JN H961 := JN_zr3 hJ (fun i hi => q1 i (by omega)) m964
        refine g_iconst (by decide) (fun v975 kv975 => ?_)
        refine g_istore_n (l' := [(0, .ref 0), (1, .int v975)]) rfl rfl ?_
        refine g_nop ?_
        have L987 : ∀ (N : Nat) (v976 : Int32) (H977 : mzH), gI SM H977 → JN H977 → k0_2 = fZ H977 0 2 → (∀ i, aZ H977 1 i = aZ H 1 i) → (∀ i, aZ H977 2 i = aZ H 2 i) → (∀ i, aZ H977 5 i = aZ H 5 i) → (∀ i, aZ H977 6 i = aZ H 6 i) → (∀ a f, fZ H977 a f = fZ H a f) → (∀ i, aZ H977 7 i = aZ H 7 i) → (∀ i, aZ H977 8 i = aZ H 8 i) → (∀ i, aZ H977 9 i = aZ H 9 i) → (0 ≤ v976.toInt ∧ v976.toInt ≤ 64) → (∀ i, i < 5 → (aZ H977 3 i).toInt = 0) → (64 - v976.toInt).toNat < N → gG 2 zB_172 (mzBlk zB_172 3) [(0, .ref 0), (1, .int v976)] [] H977 0 0 (gRv (fun H' => gI SM H' ∧ JN H' ∧ fZ H' 0 2 = fZ H 0 2 ∧ (∀ i, aZ H' 1 i = aZ H 1 i) ∧ (∀ i, aZ H' 2 i = aZ H 2 i) ∧ (∀ i, aZ H' 5 i = aZ H 5 i) ∧ (∀ i, aZ H' 6 i = aZ H 6 i) ∧ (aZ H' 3 0).toInt = 0 ∧ (aZ H' 3 1).toInt = 0 ∧ (aZ H' 3 2).toInt = 0 ∧ (aZ H' 3 3).toInt = 10 ∧ (aZ H' 3 4).toInt = 10 ∧ (fZ H' 0 17).toInt = 0 ∧ (∀ f, f ≠ 17 → fZ H' 0 f = fZ H 0 f))) := by
          intro N
          induction N with
          | zero => intro v976 H977 hIH977 hJH977 e978 m979 m980 m981 m982 m983 m984 m985 m986 bv976 q1 hmL987; exact absurd hmL987 (Nat.not_lt_zero _)
          | succ N ihL987 =>
            intro v976 H977 hIH977 hJH977 e978 m979 m980 m981 m982 m983 m984 m985 m986 bv976 q1 hmL987
            refine g_iload_n rfl ?_
            refine g_bipush (by decide) (fun v988 kv988 => ?_)
            refine g_if2_ge (fun c989 => ?_) (fun c989 => ?_)
            · refine g_aload_n rfl ?_
              refine g_gfr hIH977 sm_0 rfl ?_
              refine g_iconst (by decide) (fun v990 kv990 => ?_)
              refine g_bipush (by decide) (fun v991 kv991 => ?_)
              refine g_iastore hIH977 sm_3 (by omega) (gz_any _) (fun H992 eH992 hIH992 => ?_)
              have hJH992 : JN H992 := JN_s3 hIH977 hJH977 (by omega) (by omega) (by omega) eH992
              have e993 : k0_2 = fZ H992 0 2 := by rw [eH992, fZ_sA]; exact e978
              have m994 : ∀ i, aZ H992 1 i = aZ H 1 i := fun i => (by rw [eH992, aZ_sA_nc (by omega)] : aZ H992 1 i = aZ H977 1 i).trans (m979 i)
              have m995 : ∀ i, aZ H992 2 i = aZ H 2 i := fun i => (by rw [eH992, aZ_sA_nc (by omega)] : aZ H992 2 i = aZ H977 2 i).trans (m980 i)
              have m996 : ∀ i, aZ H992 5 i = aZ H 5 i := fun i => (by rw [eH992, aZ_sA_nc (by omega)] : aZ H992 5 i = aZ H977 5 i).trans (m981 i)
              have m997 : ∀ i, aZ H992 6 i = aZ H 6 i := fun i => (by rw [eH992, aZ_sA_nc (by omega)] : aZ H992 6 i = aZ H977 6 i).trans (m982 i)
              have m998 : ∀ a f, fZ H992 a f = fZ H a f := fun a f => (by rw [eH992, fZ_sA] : fZ H992 a f = fZ H977 a f).trans (m983 a f)
              have m999 : ∀ i, aZ H992 7 i = aZ H 7 i := fun i => (by rw [eH992, aZ_sA_nc (by omega)] : aZ H992 7 i = aZ H977 7 i).trans (m984 i)
              have m1000 : ∀ i, aZ H992 8 i = aZ H 8 i := fun i => (by rw [eH992, aZ_sA_nc (by omega)] : aZ H992 8 i = aZ H977 8 i).trans (m985 i)
              have m1001 : ∀ i, aZ H992 9 i = aZ H 9 i := fun i => (by rw [eH992, aZ_sA_nc (by omega)] : aZ H992 9 i = aZ H977 9 i).trans (m986 i)
              refine g_aload_n rfl ?_
              refine g_gfr hIH992 sm_0 rfl ?_
              refine g_iconst (by decide) (fun v1002 kv1002 => ?_)
              refine g_bipush (by decide) (fun v1003 kv1003 => ?_)
              refine g_iastore hIH992 sm_3 (by omega) (gz_any _) (fun H1004 eH1004 hIH1004 => ?_)
              have hJH1004 : JN H1004 := JN_s3 hIH992 hJH992 (by omega) (by omega) (by omega) eH1004
              have e1005 : k0_2 = fZ H1004 0 2 := by rw [eH1004, fZ_sA]; exact e993
              have m1006 : ∀ i, aZ H1004 1 i = aZ H 1 i := fun i => (by rw [eH1004, aZ_sA_nc (by omega)] : aZ H1004 1 i = aZ H992 1 i).trans (m994 i)
              have m1007 : ∀ i, aZ H1004 2 i = aZ H 2 i := fun i => (by rw [eH1004, aZ_sA_nc (by omega)] : aZ H1004 2 i = aZ H992 2 i).trans (m995 i)
              have m1008 : ∀ i, aZ H1004 5 i = aZ H 5 i := fun i => (by rw [eH1004, aZ_sA_nc (by omega)] : aZ H1004 5 i = aZ H992 5 i).trans (m996 i)
              have m1009 : ∀ i, aZ H1004 6 i = aZ H 6 i := fun i => (by rw [eH1004, aZ_sA_nc (by omega)] : aZ H1004 6 i = aZ H992 6 i).trans (m997 i)
              have m1010 : ∀ a f, fZ H1004 a f = fZ H a f := fun a f => (by rw [eH1004, fZ_sA] : fZ H1004 a f = fZ H992 a f).trans (m998 a f)
              have m1011 : ∀ i, aZ H1004 7 i = aZ H 7 i := fun i => (by rw [eH1004, aZ_sA_nc (by omega)] : aZ H1004 7 i = aZ H992 7 i).trans (m999 i)
              have m1012 : ∀ i, aZ H1004 8 i = aZ H 8 i := fun i => (by rw [eH1004, aZ_sA_nc (by omega)] : aZ H1004 8 i = aZ H992 8 i).trans (m1000 i)
              have m1013 : ∀ i, aZ H1004 9 i = aZ H 9 i := fun i => (by rw [eH1004, aZ_sA_nc (by omega)] : aZ H1004 9 i = aZ H992 9 i).trans (m1001 i)
              refine g_aload_n rfl ?_
              refine g_iconst (by decide) (fun v1014 kv1014 => ?_)
              refine g_pfz hIH1004 sm_0 rfl (by omega) (fun H1015 eH1015 hIH1015 => ?_)
              have hJH1015 : JN H1015 := JN_sF eH1015 hJH1004
              have e1016 : k0_2 = fZ H1015 0 2 := by rw [eH1015, fZ_sF_ne (by decide)]; exact e1005
              have m1017 : ∀ i, aZ H1015 1 i = aZ H 1 i := fun i => (by rw [eH1015, aZ_sF] : aZ H1015 1 i = aZ H1004 1 i).trans (m1006 i)
              have m1018 : ∀ i, aZ H1015 2 i = aZ H 2 i := fun i => (by rw [eH1015, aZ_sF] : aZ H1015 2 i = aZ H1004 2 i).trans (m1007 i)
              have m1019 : ∀ i, aZ H1015 5 i = aZ H 5 i := fun i => (by rw [eH1015, aZ_sF] : aZ H1015 5 i = aZ H1004 5 i).trans (m1008 i)
              have m1020 : ∀ i, aZ H1015 6 i = aZ H 6 i := fun i => (by rw [eH1015, aZ_sF] : aZ H1015 6 i = aZ H1004 6 i).trans (m1009 i)
              have m1022 : ∀ i, aZ H1015 7 i = aZ H 7 i := fun i => (by rw [eH1015, aZ_sF] : aZ H1015 7 i = aZ H1004 7 i).trans (m1011 i)
              have m1023 : ∀ i, aZ H1015 8 i = aZ H 8 i := fun i => (by rw [eH1015, aZ_sF] : aZ H1015 8 i = aZ H1004 8 i).trans (m1012 i)
              have m1024 : ∀ i, aZ H1015 9 i = aZ H 9 i := fun i => (by rw [eH1015, aZ_sF] : aZ H1015 9 i = aZ H1004 9 i).trans (m1013 i)
              exact g_ret ⟨rfl, hIH1015, hJH1015, (e1016.symm.trans ek0_2), m1017, m1018, m1019, m1020, (by rw [eH1015, aZ_sF, eH1004, aZ_sA_ne (by omega), eH992, aZ_sA_ne (by omega)]; exact q1 0 (by decide)), (by rw [eH1015, aZ_sF, eH1004, aZ_sA_ne (by omega), eH992, aZ_sA_ne (by omega)]; exact q1 1 (by decide)), (by rw [eH1015, aZ_sF, eH1004, aZ_sA_ne (by omega), eH992, aZ_sA_ne (by omega)]; exact q1 2 (by decide)), (by rw [eH1015, aZ_sF, eH1004, aZ_sA_ne (by omega), eH992, show v990.toInt.toNat = 3 from by omega, aZ_sA_eq hIH977 sm_3 (by decide)]; omega), (by rw [eH1015, aZ_sF, eH1004, show v1002.toInt.toNat = 4 from by omega, aZ_sA_eq hIH992 sm_3 (by decide)]; omega), (by rw [eH1015, fZ_sF_eq hIH1004 sm_0 rfl]; omega), (fun f hf => (by rw [eH1015, fZ_sF_ne (Ne.symm hf), eH1004, fZ_sA, eH992, fZ_sA] : fZ H1015 0 f = fZ H977 0 f).trans (m983 0 f))⟩
            · refine g_aload_n rfl ?_
              refine g_gfr hIH977 sm_0 rfl ?_
              refine g_iconst (by decide) (fun v1025 kv1025 => ?_)
              refine g_iload_n rfl ?_
              refine g_iadd (by omega) (fun v1026 ev1026 => ?_)
              refine g_iload_n rfl ?_
              refine g_bipush (by decide) (fun v1027 kv1027 => ?_)
              refine g_irem' (by omega) (fun v1028 _ => ?_)
              refine g_if_ne (fun c1029 => ?_) (fun c1029 => ?_)
              · refine g_ldc (by decide) (fun v1030 kv1030 => ?_)
                refine g_nop ?_
                refine g_iastore hIH977 sm_3 (by omega) (gz_any _) (fun H1031 eH1031 hIH1031 => ?_)
                have hJH1031 : JN H1031 := JN_s3 hIH977 hJH977 (by omega) (by omega) (by omega) eH1031
                have e1032 : k0_2 = fZ H1031 0 2 := by rw [eH1031, fZ_sA]; exact e978
                have m1033 : ∀ i, aZ H1031 1 i = aZ H 1 i := fun i => (by rw [eH1031, aZ_sA_nc (by omega)] : aZ H1031 1 i = aZ H977 1 i).trans (m979 i)
                have m1034 : ∀ i, aZ H1031 2 i = aZ H 2 i := fun i => (by rw [eH1031, aZ_sA_nc (by omega)] : aZ H1031 2 i = aZ H977 2 i).trans (m980 i)
                have m1035 : ∀ i, aZ H1031 5 i = aZ H 5 i := fun i => (by rw [eH1031, aZ_sA_nc (by omega)] : aZ H1031 5 i = aZ H977 5 i).trans (m981 i)
                have m1036 : ∀ i, aZ H1031 6 i = aZ H 6 i := fun i => (by rw [eH1031, aZ_sA_nc (by omega)] : aZ H1031 6 i = aZ H977 6 i).trans (m982 i)
                have m1037 : ∀ a f, fZ H1031 a f = fZ H a f := fun a f => (by rw [eH1031, fZ_sA] : fZ H1031 a f = fZ H977 a f).trans (m983 a f)
                have m1038 : ∀ i, aZ H1031 7 i = aZ H 7 i := fun i => (by rw [eH1031, aZ_sA_nc (by omega)] : aZ H1031 7 i = aZ H977 7 i).trans (m984 i)
                have m1039 : ∀ i, aZ H1031 8 i = aZ H 8 i := fun i => (by rw [eH1031, aZ_sA_nc (by omega)] : aZ H1031 8 i = aZ H977 8 i).trans (m985 i)
                have m1040 : ∀ i, aZ H1031 9 i = aZ H 9 i := fun i => (by rw [eH1031, aZ_sA_nc (by omega)] : aZ H1031 9 i = aZ H977 9 i).trans (m986 i)
                refine g_iinc (l' := (fun v1041 => [(0, .ref 0), (1, .int v1041)])) rfl rfl (by decide) (by omega) (fun _ => rfl) (fun v1041 ev1041 => ?_)
                refine g_goto ?_
                exact ihL987 v1041 H1031 hIH1031 hJH1031 e1032 m1033 m1034 m1035 m1036 m1037 m1038 m1039 m1040 (by omega) (fun i hi => by rw [eH1031, aZ_sA_ne (by omega)]; exact q1 i hi) (by omega)
              · refine g_iconst (by decide) (fun v1042 kv1042 => ?_)
                refine g_goto ?_
                refine g_iastore hIH977 sm_3 (by omega) (gz_any _) (fun H1043 eH1043 hIH1043 => ?_)
                have hJH1043 : JN H1043 := JN_s3 hIH977 hJH977 (by omega) (by omega) (by omega) eH1043
                have e1044 : k0_2 = fZ H1043 0 2 := by rw [eH1043, fZ_sA]; exact e978
                have m1045 : ∀ i, aZ H1043 1 i = aZ H 1 i := fun i => (by rw [eH1043, aZ_sA_nc (by omega)] : aZ H1043 1 i = aZ H977 1 i).trans (m979 i)
                have m1046 : ∀ i, aZ H1043 2 i = aZ H 2 i := fun i => (by rw [eH1043, aZ_sA_nc (by omega)] : aZ H1043 2 i = aZ H977 2 i).trans (m980 i)
                have m1047 : ∀ i, aZ H1043 5 i = aZ H 5 i := fun i => (by rw [eH1043, aZ_sA_nc (by omega)] : aZ H1043 5 i = aZ H977 5 i).trans (m981 i)
                have m1048 : ∀ i, aZ H1043 6 i = aZ H 6 i := fun i => (by rw [eH1043, aZ_sA_nc (by omega)] : aZ H1043 6 i = aZ H977 6 i).trans (m982 i)
                have m1049 : ∀ a f, fZ H1043 a f = fZ H a f := fun a f => (by rw [eH1043, fZ_sA] : fZ H1043 a f = fZ H977 a f).trans (m983 a f)
                have m1050 : ∀ i, aZ H1043 7 i = aZ H 7 i := fun i => (by rw [eH1043, aZ_sA_nc (by omega)] : aZ H1043 7 i = aZ H977 7 i).trans (m984 i)
                have m1051 : ∀ i, aZ H1043 8 i = aZ H 8 i := fun i => (by rw [eH1043, aZ_sA_nc (by omega)] : aZ H1043 8 i = aZ H977 8 i).trans (m985 i)
                have m1052 : ∀ i, aZ H1043 9 i = aZ H 9 i := fun i => (by rw [eH1043, aZ_sA_nc (by omega)] : aZ H1043 9 i = aZ H977 9 i).trans (m986 i)
                refine g_iinc (l' := (fun v1053 => [(0, .ref 0), (1, .int v1053)])) rfl rfl (by decide) (by omega) (fun _ => rfl) (fun v1053 ev1053 => ?_)
                refine g_goto ?_
                exact ihL987 v1053 H1043 hIH1043 hJH1043 e1044 m1045 m1046 m1047 m1048 m1049 m1050 m1051 m1052 (by omega) (fun i hi => by rw [eH1043, aZ_sA_ne (by omega)]; exact q1 i hi) (by omega)
        exact L987 _ v975 H961 hIH961 hJ974 e962 m963 m964 m965 m966 m967 m968 m969 m970 (by omega) (fun i hi => q1 i (by omega)) (Nat.lt_succ_self _)
      · refine g_aload_n rfl ?_
        refine g_gfr hIH961 sm_0 rfl ?_
        refine g_iload_n rfl ?_
        refine g_iconst (by decide) (fun v1054 kv1054 => ?_)
        refine g_iastore hIH961 sm_3 (by omega) (gz_any _) (fun H1055 eH1055 hIH1055 => ?_)
        have e1056 : k0_2 = fZ H1055 0 2 := by rw [eH1055, fZ_sA]; exact e962
        have m1057 : ∀ i, aZ H1055 1 i = aZ H 1 i := fun i => (by rw [eH1055, aZ_sA_nc (by omega)] : aZ H1055 1 i = aZ H961 1 i).trans (m963 i)
        have m1058 : ∀ i, aZ H1055 2 i = aZ H 2 i := fun i => (by rw [eH1055, aZ_sA_nc (by omega)] : aZ H1055 2 i = aZ H961 2 i).trans (m964 i)
        have m1059 : ∀ i, aZ H1055 5 i = aZ H 5 i := fun i => (by rw [eH1055, aZ_sA_nc (by omega)] : aZ H1055 5 i = aZ H961 5 i).trans (m965 i)
        have m1060 : ∀ i, aZ H1055 6 i = aZ H 6 i := fun i => (by rw [eH1055, aZ_sA_nc (by omega)] : aZ H1055 6 i = aZ H961 6 i).trans (m966 i)
        have m1061 : ∀ a f, fZ H1055 a f = fZ H a f := fun a f => (by rw [eH1055, fZ_sA] : fZ H1055 a f = fZ H961 a f).trans (m967 a f)
        have m1062 : ∀ i, aZ H1055 7 i = aZ H 7 i := fun i => (by rw [eH1055, aZ_sA_nc (by omega)] : aZ H1055 7 i = aZ H961 7 i).trans (m968 i)
        have m1063 : ∀ i, aZ H1055 8 i = aZ H 8 i := fun i => (by rw [eH1055, aZ_sA_nc (by omega)] : aZ H1055 8 i = aZ H961 8 i).trans (m969 i)
        have m1064 : ∀ i, aZ H1055 9 i = aZ H 9 i := fun i => (by rw [eH1055, aZ_sA_nc (by omega)] : aZ H1055 9 i = aZ H961 9 i).trans (m970 i)
        refine g_iinc (l' := (fun v1065 => [(0, .ref 0), (1, .int v1065)])) rfl rfl (by decide) (by omega) (fun _ => rfl) (fun v1065 ev1065 => ?_)
        refine g_goto ?_
        exact ihL971 v1065 H1055 hIH1055 e1056 m1057 m1058 m1059 m1060 m1061 m1062 m1063 m1064 (by omega) (fun q hq => by rw [eH1055]; if e : v960.toInt.toNat = q then (subst e; rw [aZ_sA_eq hIH961 sm_3 (by omega)]; omega) else (rw [aZ_sA_ne e]; exact q1 q (by omega))) (by omega)
  exact L971 _ v959 H hI ek0_2 mk1 mk2 mk5 mk6 mkF mk7 mk8 mk9 (by omega) (fun q hq => absurd hq (by omega)) (Nat.lt_succ_self _)
