set_option maxRecDepth 4000 in
set_option maxHeartbeats 4000000 in
/-- M.most -/
theorem r_240 (a1 : Int32) (H : mzH) (hI : gI SM H) (hJ : JN H) (hp0 : ((∀ A, tkW H A → gdM A))) : gCall 240 [.ref 0, .int a1] H (gRi (fun v H' => gI SM H' ∧ JN H' ∧ fZ H' 0 2 = fZ H 0 2 ∧ kpM H H' ∧ ((v.toInt = -1 ∧ ¬ ((0 ≤ a1.toInt ∧ a1.toInt ≤ 39))) ∨ (((0 ≤ a1.toInt ∧ a1.toInt ≤ 39)) ∧ (∃ A : mzH, tkW H A ∧ ∃ G : mzH, clR (rgM G) (mdM G) ∧ v.toInt = (if (fM A G (cnM A)).2 a1.toInt.toNat = 0 then -2 else mxF (fun p => cnt (fun x => inn (fM A G (p + 1)).1 x a1.toInt = 1) 40) (cnM A))))))) := by
  obtain ⟨k0_2, ek0_2⟩ : ∃ z, z = fZ H 0 2 := ⟨_, rfl⟩
  have ik0_2 : k0_2.toInt = (fZ H 0 2).toInt := by rw [← ek0_2]
  have bk0_2 : 0 ≤ k0_2.toInt ∧ k0_2.toInt ≤ 900 := by rw [ek0_2]; exact fZ_of hI sm_0 rfl
  have mkfr : kpM H H := kpM_r
  refine gG_call [(0, .ref 0), (1, .int a1)] ⟨rfl, rfl, trivial⟩ ?_
  show gG 4 zB_240 (mzBlk zB_240 0) [(0, .ref 0), (1, .int a1)] [] H 0 0 _
  refine g_aload_n rfl ?_
  refine g_iconst (by decide) (fun v741 kv741 => ?_)
  refine g_pfi hI sm_0 rfl (gz_any _) (fun H742 eH742 hIH742 => ?_)
  have hJH742 : JN H742 := JN_sF eH742 hJ
  have e743 : k0_2 = fZ H742 0 2 := by rw [eH742, fZ_sF_ne (by decide)]; exact ek0_2
  have m744 : kpM H H742 := kpM_F mkfr eH742 (by omega)
  refine g_iload_n rfl ?_
  refine g_invti rfl rfl rfl (r_205 a1 H742 hIH742 hJH742) (fun v747 H745 r746 => ?_)
  obtain ⟨rfl, bv747, p748⟩ := r746
  refine g_if_ne (fun c749 => ?_) (fun c749 => ?_)
  · refine g_aload_n rfl ?_
    refine g_invvv hIH742 sm_0 rfl rfl rfl rfl (r_182 H742 hIH742 hJH742) (fun H750 r751 => ?_)
    obtain ⟨hIH750, hJH750, m752, m753, m754, m755, p756, p757⟩ := r751
    have e758 : k0_2 = fZ H750 0 2 := e743.trans (m752 0 2).symm
    have m759 : kpM H H750 := kpM_t m744 m754
    have tH750 : tkW H H750 := tk_kp m744 ⟨m754, m753, p757⟩
    have gmH750 := hp0 H750 tH750
    refine g_aload_n rfl ?_
    refine g_invvv hIH750 sm_0 rfl rfl rfl rfl (r_184 H750 hIH750 hJH750) (fun H760 r761 => ?_)
    obtain ⟨hIH760, hJH760, w762, m763, m764, m765, m766, m767, p768, p769, p770⟩ := r761
    have e771 : k0_2 = fZ H760 0 2 := e758.trans w762.symm
    have m772 : kpM H H760 := kpM_t m759 m765
    have xm773 : (∀ i, aZ H760 18 i = aZ H750 18 i) := fun i => (m766 i : aZ H760 18 i = aZ H750 18 i).trans ((fun _ => rfl) i)
    have xm774 : (∀ i, aZ H760 2 i = aZ H750 2 i) := fun i => (m763 i : aZ H760 2 i = aZ H750 2 i).trans ((fun _ => rfl) i)
    have xm775 : (∀ i, aZ H760 17 i = aZ H750 17 i) := fun i => (m764 i : aZ H760 17 i = aZ H750 17 i).trans ((fun _ => rfl) i)
    have clH760 := p769
    have odH760 := p770
    have wdH760 : rwX H760 (fM H750 H760 0).1 (fM H750 H760 0).2 := rw_rd
    refine g_iconst (by decide) (fun v776 kv776 => ?_)
    refine g_istore_n (l' := [(0, .ref 0), (1, .int a1), (2, .int v776)]) rfl rfl ?_
    refine g_iconst (by decide) (fun v777 kv777 => ?_)
    refine g_istore_n (l' := [(0, .ref 0), (1, .int a1), (2, .int v776), (3, .int v777)]) rfl rfl ?_
    refine g_nop ?_
    have L788 : ∀ (N : Nat) (v778 : Int32) (v779 : Int32) (H780 : mzH), gI SM H780 → JM H780 → k0_2 = fZ H780 0 2 → kpM H H780 → (0 ≤ v779.toInt ∧ v779.toInt ≤ 60) → (∀ i, aZ H780 18 i = aZ H750 18 i) → (∀ i, aZ H780 2 i = aZ H750 2 i) → (∀ i, aZ H780 17 i = aZ H750 17 i) → (∀ i, aZ H780 19 i = aZ H760 19 i) → fZ H780 0 34 = fZ H760 0 34 → rwX H780 (fM H750 H760 v779.toInt.toNat).1 (fM H750 H760 v779.toInt.toNat).2 → v779.toInt.toNat ≤ cnM H750 → v778.toInt = mxF (fun p => cnt (fun x => inn (fM H750 H760 (p + 1)).1 x a1.toInt = 1) 40) v779.toInt.toNat → (60 - v779.toInt).toNat < N → gG 4 zB_240 (mzBlk zB_240 2) [(0, .ref 0), (1, .int a1), (2, .int v778), (3, .int v779)] [] H780 0 0 (gRi (fun v H' => gI SM H' ∧ JN H' ∧ fZ H' 0 2 = fZ H 0 2 ∧ kpM H H' ∧ ((v.toInt = -1 ∧ ¬ ((0 ≤ a1.toInt ∧ a1.toInt ≤ 39))) ∨ (((0 ≤ a1.toInt ∧ a1.toInt ≤ 39)) ∧ (∃ A : mzH, tkW H A ∧ ∃ G : mzH, clR (rgM G) (mdM G) ∧ v.toInt = (if (fM A G (cnM A)).2 a1.toInt.toNat = 0 then -2 else mxF (fun p => cnt (fun x => inn (fM A G (p + 1)).1 x a1.toInt = 1) 40) (cnM A))))))) := by
      intro N
      induction N with
      | zero => intro v778 v779 H780 hIH780 hJH780 e781 m782 bv779 xq783 xq784 xq785 xq786 xq787 q5 q8 q6 hmL788; exact absurd hmL788 (Nat.not_lt_zero _)
      | succ N ihL788 =>
        intro v778 v779 H780 hIH780 hJH780 e781 m782 bv779 xq783 xq784 xq785 xq786 xq787 q5 q8 q6 hmL788
        refine g_iload_n rfl ?_
        refine g_aload_n rfl ?_
        refine g_gfi hIH780 sm_0 rfl (fun v789 ev789 lv789 uv789 => ?_)
        have zv789 : v789.toInt = (cnM H750 : Int) := by rw [ev789]; exact od_n (od_cg2 xq786 xq787 odH760)
        refine g_if2_ge (fun c790 => ?_) (fun c790 => ?_)
        · refine g_aload_n rfl ?_
          refine g_gfr hIH780 sm_0 rfl ?_
          refine g_iload_n rfl ?_
          refine g_baload hIH780 sm_7 rfl (by omega) (fun v791 ev791 lv791 uv791 => ?_)
          have yv791 : v791.toInt = (fM H750 H760 v779.toInt.toNat).2 a1.toInt.toNat := by rw [ev791]; exact (q5 _ (by omega)).1
          refine g_if_eq (fun c792 => ?_) (fun c792 => ?_)
          · refine g_bipush (by decide) (fun v793 kv793 => ?_)
            refine g_nop ?_
            exact g_iret ⟨_, rfl, hIH780, (JM_n hJH780), (e781.symm.trans ek0_2), m782, (Or.inr ⟨by omega, H750, tH750, H760, clH760, by rw [show cnM H750 = v779.toInt.toNat by omega]; first | (rw [if_pos (by omega)]; omega) | (rw [if_neg (by omega)]; omega)⟩)⟩
          · refine g_iload_n rfl ?_
            refine g_goto ?_
            exact g_iret ⟨_, rfl, hIH780, (JM_n hJH780), (e781.symm.trans ek0_2), m782, (Or.inr ⟨by omega, H750, tH750, H760, clH760, by rw [show cnM H750 = v779.toInt.toNat by omega]; first | (rw [if_pos (by omega)]; omega) | (rw [if_neg (by omega)]; omega)⟩)⟩
        · refine g_aload_n rfl ?_
          refine g_aload_n rfl ?_
          refine g_gfr hIH780 sm_0 rfl ?_
          refine g_iload_n rfl ?_
          refine g_iaload hIH780 sm_19 rfl (by omega) (fun v794 ev794 lv794 uv794 => ?_)
          have zkv794 : v794.toInt.toNat = odM H750 v779.toInt.toNat := by rw [ev794]; exact od_g (od_cg2 xq786 xq787 odH760) (by omega)
          refine g_invvv hIH780 sm_0 rfl rfl rfl rfl (r_192 v794 (by omega) H780 hIH780 hJH780 q5 (gmH750.2 H760 clH760 v779.toInt.toNat (by omega)).1 (gmH750.2 H760 clH760 v779.toInt.toNat (by omega)).2 (by rw [xq783, zkv794]; exact gmH750.1 v779.toInt.toNat (by omega)) (bt_of hIH780 q5)) (fun H795 r796 => ?_)
          obtain ⟨hIH795, hJH795, m797, m798, m799, m800, m801, m802, m803, m804, m805, m806, p807, p808, p809⟩ := r796
          have e810 : k0_2 = fZ H795 0 2 := e781.trans (m797 0 2).symm
          have m811 : kpM H H795 := kpM_t m782 m801
          have xm812 : (∀ i, aZ H795 18 i = aZ H750 18 i) := fun i => (m802 i : aZ H795 18 i = aZ H780 18 i).trans (xq783 i)
          have xm813 : (∀ i, aZ H795 2 i = aZ H750 2 i) := fun i => (m798 i : aZ H795 2 i = aZ H780 2 i).trans (xq784 i)
          have xm814 : (∀ i, aZ H795 17 i = aZ H750 17 i) := fun i => (m800 i : aZ H795 17 i = aZ H780 17 i).trans (xq785 i)
          have xm815 : (∀ i, aZ H795 19 i = aZ H760 19 i) := fun i => (m799 i : aZ H795 19 i = aZ H780 19 i).trans (xq786 i)
          have xm816 : fZ H795 0 34 = fZ H760 0 34 := (m797 0 34 : fZ H795 0 34 = fZ H780 0 34).trans xq787
          have wzp817 : rwX H795 (fM H750 H760 (v779.toInt.toNat + 1)).1 (fM H750 H760 (v779.toInt.toNat + 1)).2 := fm_st (H := H750) (kpM_d tH750.1 m782) xq783 xq784 p807 zkv794 (by omega) rfl
          obtain ⟨dpp817, lap817⟩ := gmH750.2 H760 clH760 (v779.toInt.toNat + 1) (by omega)
          refine g_aload_n rfl ?_
          refine g_iload_n rfl ?_
          refine g_invvi hIH795 sm_0 rfl rfl rfl rfl (r_207 a1 (by omega) H795 hIH795 hJH795 wzp817 dpp817) (fun v820 H818 r819 => ?_)
          obtain ⟨rfl, p821⟩ := r819
          refine g_iload_n rfl ?_
          refine g_if2_le (fun c822 => ?_) (fun c822 => ?_)
          · refine g_iload_n rfl ?_
            refine g_nop ?_
            refine g_istore_n (l' := [(0, .ref 0), (1, .int a1), (2, .int v778), (3, .int v779)]) rfl rfl ?_
            refine g_iinc (l' := (fun v823 => [(0, .ref 0), (1, .int a1), (2, .int v778), (3, .int v823)])) rfl rfl (by decide) (by omega) (fun _ => rfl) (fun v823 ev823 => ?_)
            refine g_goto ?_
            exact ihL788 v778 v823 H795 hIH795 hJH795 e810 m811 (by omega) xm812 xm813 xm814 xm815 xm816 (by rw [show v823.toInt.toNat = v779.toInt.toNat + 1 by omega]; exact wzp817) (by omega) (mx_s q6 (by omega) (by show (_ < cnt _ 40 ∧ _ = cnt _ 40) ∨ (cnt _ 40 ≤ _ ∧ _ = _); omega)) (by omega)
          · refine g_aload_n rfl ?_
            refine g_iload_n rfl ?_
            refine g_invvi hIH795 sm_0 rfl rfl rfl rfl (r_207 a1 (by omega) H795 hIH795 hJH795 wzp817 dpp817) (fun v826 H824 r825 => ?_)
            obtain ⟨rfl, p827⟩ := r825
            refine g_goto ?_
            refine g_istore_n (l' := [(0, .ref 0), (1, .int a1), (2, .int v826), (3, .int v779)]) rfl rfl ?_
            refine g_iinc (l' := (fun v828 => [(0, .ref 0), (1, .int a1), (2, .int v826), (3, .int v828)])) rfl rfl (by decide) (by omega) (fun _ => rfl) (fun v828 ev828 => ?_)
            refine g_goto ?_
            exact ihL788 v826 v828 H795 hIH795 hJH795 e810 m811 (by omega) xm812 xm813 xm814 xm815 xm816 (by rw [show v828.toInt.toNat = v779.toInt.toNat + 1 by omega]; exact wzp817) (by omega) (mx_s q6 (by omega) (by show (_ < cnt _ 40 ∧ _ = cnt _ 40) ∨ (cnt _ 40 ≤ _ ∧ _ = _); omega)) (by omega)
    exact L788 _ v776 v777 H760 hIH760 hJH760 e771 m772 (by omega) xm773 xm774 xm775 (fun _ => rfl) rfl (by rw [kv777]; exact wdH760) (by omega) (mx_0 (by omega) (by omega)) (Nat.lt_succ_self _)
  · refine g_iconst (by decide) (fun v829 kv829 => ?_)
    exact g_iret ⟨_, rfl, hIH742, hJH742, (e743.symm.trans ek0_2), m744, (Or.inl ⟨by omega, by omega⟩)⟩
