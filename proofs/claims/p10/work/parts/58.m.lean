set_option maxRecDepth 4000 in
set_option maxHeartbeats 4000000 in
/-- M.feed -/
theorem s_155 (a1 : Int32) (a2 : Int32) (a3 : Int32) (a4 : Int32) (a5 : Int32) (H : mzH) (hI : gI SM H) (hJ : JN H) : gCall 155 [.ref 0, .int a1, .int a2, .int a3, .int a4, .int a5] H (gRi (fun v H' => gI SM H' ∧ JN H' ∧ (((fZ H 0 2).toInt ≤ 880 ∧ v.toInt = (fZ H 0 2).toInt + 20 ∧ (fZ H' 0 2).toInt = (fZ H 0 2).toInt + 20) ∨ (880 < (fZ H 0 2).toInt ∧ v.toInt = -1 ∧ (fZ H' 0 2).toInt = (fZ H 0 2).toInt)))) := by
  obtain ⟨k0_2, ek0_2⟩ : ∃ z, z = fZ H 0 2 := ⟨_, rfl⟩
  have ik0_2 : k0_2.toInt = (fZ H 0 2).toInt := by rw [← ek0_2]
  have bk0_2 : 0 ≤ k0_2.toInt ∧ k0_2.toInt ≤ 900 := by rw [ek0_2]; exact fZ_of hI sm_0 rfl
  refine gG_call [(0, .ref 0), (1, .int a1), (2, .int a2), (3, .int a3), (4, .int a4), (5, .int a5)] ⟨rfl, rfl, rfl, rfl, rfl, rfl, trivial⟩ ?_
  show gG 8 zB_155 (mzBlk zB_155 0) [(0, .ref 0), (1, .int a1), (2, .int a2), (3, .int a3), (4, .int a4), (5, .int a5)] [] H 0 0 _
  refine g_aload_n rfl ?_
  refine g_iconst (by decide) (fun v633 kv633 => ?_)
  refine g_pfi hI sm_0 rfl (gz_any _) (fun H634 eH634 hIH634 => ?_)
  have hJH634 : JN H634 := JN_sF eH634 hJ
  have e635 : k0_2 = fZ H634 0 2 := by rw [eH634, fZ_sF_ne (by decide)]; exact ek0_2
  have ie635 : k0_2.toInt = (fZ H634 0 2).toInt := by rw [← e635]
  refine g_aload_n rfl ?_
  refine g_gfk hIH634 sm_0 rfl e635 ?_
  refine g_sipush (by decide) (fun v636 kv636 => ?_)
  refine g_if2_le (fun c637 => ?_) (fun c637 => ?_)
  · refine g_iconst (by decide) (fun v638 kv638 => ?_)
    refine g_istore (l' := [(0, .ref 0), (1, .int a1), (2, .int a2), (3, .int a3), (4, .int a4), (5, .int a5), (6, .int v638)]) rfl rfl ?_
    refine g_nop ?_
    have L642 : ∀ (N : Nat) (v639 : Int32) (H640 : mzH), gI SM H640 → JN H640 → k0_2 = fZ H640 0 2 → (0 ≤ v639.toInt ∧ v639.toInt ≤ 20) → (20 - v639.toInt).toNat < N → gG 8 zB_155 (mzBlk zB_155 2) [(0, .ref 0), (1, .int a1), (2, .int a2), (3, .int a3), (4, .int a4), (5, .int a5), (6, .int v639)] [] H640 0 0 (gRi (fun v H' => gI SM H' ∧ JN H' ∧ (((fZ H 0 2).toInt ≤ 880 ∧ v.toInt = (fZ H 0 2).toInt + 20 ∧ (fZ H' 0 2).toInt = (fZ H 0 2).toInt + 20) ∨ (880 < (fZ H 0 2).toInt ∧ v.toInt = -1 ∧ (fZ H' 0 2).toInt = (fZ H 0 2).toInt)))) := by
      intro N
      induction N with
      | zero => intro v639 H640 hIH640 hJH640 e641 bv639 hmL642; exact absurd hmL642 (Nat.not_lt_zero _)
      | succ N ihL642 =>
        intro v639 H640 hIH640 hJH640 e641 bv639 hmL642
        refine g_iload rfl ?_
        refine g_bipush (by decide) (fun v643 kv643 => ?_)
        refine g_if2_ge (fun c644 => ?_) (fun c644 => ?_)
        · refine g_aload_n rfl ?_
          refine g_dup rfl ?_
          refine g_gfk hIH640 sm_0 rfl e641 ?_
          refine g_bipush (by decide) (fun v645 kv645 => ?_)
          refine g_iadd (by omega) (fun v646 ev646 => ?_)
          refine g_pfi hIH640 sm_0 rfl (by omega) (fun H647 eH647 hIH647 => ?_)
          have hJH647 : JN H647 := JN_sF eH647 hJH640
          have e648 : v646 = fZ H647 0 2 := by rw [eH647, fZ_sF_eq hIH640 sm_0 rfl]
          have ie648 : v646.toInt = (fZ H647 0 2).toInt := by rw [← e648]
          refine g_aload_n rfl ?_
          refine g_gfk hIH647 sm_0 rfl e648 ?_
          exact g_iret ⟨_, rfl, hIH647, hJH647, (by omega)⟩
        · refine g_iload rfl ?_
          refine g_iconst (by decide) (fun v649 kv649 => ?_)
          refine g_if2_ge (fun c650 => ?_) (fun c650 => ?_)
          · refine g_iload rfl ?_
            refine g_bipush (by decide) (fun v651 kv651 => ?_)
            refine g_if2_ge (fun c652 => ?_) (fun c652 => ?_)
            · refine g_iload rfl ?_
              refine g_bipush (by decide) (fun v653 kv653 => ?_)
              refine g_if2_ge (fun c654 => ?_) (fun c654 => ?_)
              · refine g_iload rfl ?_
                refine g_bipush (by decide) (fun v655 kv655 => ?_)
                refine g_if2_ge (fun c656 => ?_) (fun c656 => ?_)
                · refine g_iload rfl ?_
                  refine g_nop ?_
                  refine g_istore (l' := [(0, .ref 0), (1, .int a1), (2, .int a2), (3, .int a3), (4, .int a4), (5, .int a5), (6, .int v639), (7, .int a5)]) rfl rfl ?_
                  refine g_aload_n rfl ?_
                  refine g_gfr hIH640 sm_0 rfl ?_
                  refine g_aload_n rfl ?_
                  refine g_gfk hIH640 sm_0 rfl e641 ?_
                  refine g_iload rfl ?_
                  refine g_iadd (by omega) (fun v657 ev657 => ?_)
                  refine g_iload rfl ?_
                  refine g_bipush (by decide) (fun v658 kv658 => ?_)
                  refine g_bipush (by decide) (fun v659 kv659 => ?_)
                  refine g_iload rfl ?_
                  refine g_iconst (by decide) (fun v660 kv660 => ?_)
                  refine g_irem' (by omega) (fun v661 _ => ?_)
                  refine g_imul' (fun v662 ov662 => ?_)
                  refine g_isub' (fun v663 ov663 => ?_)
                  refine g_ishr' (fun v664 ov664 => ?_)
                  refine g_sipush (by decide) (fun v665 kv665 => ?_)
                  refine g_iand (by omega) (fun v666 ov666 lv666 uv666 => ?_)
                  refine g_iastore hIH640 sm_1 (by omega) (by omega) (fun H667 eH667 hIH667 => ?_)
                  have hJH667 : JN H667 := JN_sA (by decide) eH667 hJH640
                  have e668 : k0_2 = fZ H667 0 2 := by rw [eH667, fZ_sA]; exact e641
                  have ie668 : k0_2.toInt = (fZ H667 0 2).toInt := by rw [← e668]
                  refine g_iinc (l' := (fun v669 => [(0, .ref 0), (1, .int a1), (2, .int a2), (3, .int a3), (4, .int a4), (5, .int a5), (6, .int v669), (7, .int a5)])) rfl rfl (by decide) (by omega) (fun _ => rfl) (fun v669 ev669 => ?_)
                  refine g_goto ?_
                  refine gG_pick [0, 1, 2, 3, 4, 5, 6] (l' := [(0, .ref 0), (1, .int a1), (2, .int a2), (3, .int a3), (4, .int a4), (5, .int a5), (6, .int v669)]) rfl ?_
                  exact ihL642 v669 H667 hIH667 hJH667 e668 (by omega) (by omega)
                · refine g_iload rfl ?_
                  refine g_goto ?_
                  refine g_istore (l' := [(0, .ref 0), (1, .int a1), (2, .int a2), (3, .int a3), (4, .int a4), (5, .int a5), (6, .int v639), (7, .int a4)]) rfl rfl ?_
                  refine g_aload_n rfl ?_
                  refine g_gfr hIH640 sm_0 rfl ?_
                  refine g_aload_n rfl ?_
                  refine g_gfk hIH640 sm_0 rfl e641 ?_
                  refine g_iload rfl ?_
                  refine g_iadd (by omega) (fun v670 ev670 => ?_)
                  refine g_iload rfl ?_
                  refine g_bipush (by decide) (fun v671 kv671 => ?_)
                  refine g_bipush (by decide) (fun v672 kv672 => ?_)
                  refine g_iload rfl ?_
                  refine g_iconst (by decide) (fun v673 kv673 => ?_)
                  refine g_irem' (by omega) (fun v674 _ => ?_)
                  refine g_imul' (fun v675 ov675 => ?_)
                  refine g_isub' (fun v676 ov676 => ?_)
                  refine g_ishr' (fun v677 ov677 => ?_)
                  refine g_sipush (by decide) (fun v678 kv678 => ?_)
                  refine g_iand (by omega) (fun v679 ov679 lv679 uv679 => ?_)
                  refine g_iastore hIH640 sm_1 (by omega) (by omega) (fun H680 eH680 hIH680 => ?_)
                  have hJH680 : JN H680 := JN_sA (by decide) eH680 hJH640
                  have e681 : k0_2 = fZ H680 0 2 := by rw [eH680, fZ_sA]; exact e641
                  have ie681 : k0_2.toInt = (fZ H680 0 2).toInt := by rw [← e681]
                  refine g_iinc (l' := (fun v682 => [(0, .ref 0), (1, .int a1), (2, .int a2), (3, .int a3), (4, .int a4), (5, .int a5), (6, .int v682), (7, .int a4)])) rfl rfl (by decide) (by omega) (fun _ => rfl) (fun v682 ev682 => ?_)
                  refine g_goto ?_
                  refine gG_pick [0, 1, 2, 3, 4, 5, 6] (l' := [(0, .ref 0), (1, .int a1), (2, .int a2), (3, .int a3), (4, .int a4), (5, .int a5), (6, .int v682)]) rfl ?_
                  exact ihL642 v682 H680 hIH680 hJH680 e681 (by omega) (by omega)
              · refine g_iload_n rfl ?_
                refine g_goto ?_
                refine g_istore (l' := [(0, .ref 0), (1, .int a1), (2, .int a2), (3, .int a3), (4, .int a4), (5, .int a5), (6, .int v639), (7, .int a3)]) rfl rfl ?_
                refine g_aload_n rfl ?_
                refine g_gfr hIH640 sm_0 rfl ?_
                refine g_aload_n rfl ?_
                refine g_gfk hIH640 sm_0 rfl e641 ?_
                refine g_iload rfl ?_
                refine g_iadd (by omega) (fun v683 ev683 => ?_)
                refine g_iload rfl ?_
                refine g_bipush (by decide) (fun v684 kv684 => ?_)
                refine g_bipush (by decide) (fun v685 kv685 => ?_)
                refine g_iload rfl ?_
                refine g_iconst (by decide) (fun v686 kv686 => ?_)
                refine g_irem' (by omega) (fun v687 _ => ?_)
                refine g_imul' (fun v688 ov688 => ?_)
                refine g_isub' (fun v689 ov689 => ?_)
                refine g_ishr' (fun v690 ov690 => ?_)
                refine g_sipush (by decide) (fun v691 kv691 => ?_)
                refine g_iand (by omega) (fun v692 ov692 lv692 uv692 => ?_)
                refine g_iastore hIH640 sm_1 (by omega) (by omega) (fun H693 eH693 hIH693 => ?_)
                have hJH693 : JN H693 := JN_sA (by decide) eH693 hJH640
                have e694 : k0_2 = fZ H693 0 2 := by rw [eH693, fZ_sA]; exact e641
                have ie694 : k0_2.toInt = (fZ H693 0 2).toInt := by rw [← e694]
                refine g_iinc (l' := (fun v695 => [(0, .ref 0), (1, .int a1), (2, .int a2), (3, .int a3), (4, .int a4), (5, .int a5), (6, .int v695), (7, .int a3)])) rfl rfl (by decide) (by omega) (fun _ => rfl) (fun v695 ev695 => ?_)
                refine g_goto ?_
                refine gG_pick [0, 1, 2, 3, 4, 5, 6] (l' := [(0, .ref 0), (1, .int a1), (2, .int a2), (3, .int a3), (4, .int a4), (5, .int a5), (6, .int v695)]) rfl ?_
                exact ihL642 v695 H693 hIH693 hJH693 e694 (by omega) (by omega)
            · refine g_iload_n rfl ?_
              refine g_goto ?_
              refine g_istore (l' := [(0, .ref 0), (1, .int a1), (2, .int a2), (3, .int a3), (4, .int a4), (5, .int a5), (6, .int v639), (7, .int a2)]) rfl rfl ?_
              refine g_aload_n rfl ?_
              refine g_gfr hIH640 sm_0 rfl ?_
              refine g_aload_n rfl ?_
              refine g_gfk hIH640 sm_0 rfl e641 ?_
              refine g_iload rfl ?_
              refine g_iadd (by omega) (fun v696 ev696 => ?_)
              refine g_iload rfl ?_
              refine g_bipush (by decide) (fun v697 kv697 => ?_)
              refine g_bipush (by decide) (fun v698 kv698 => ?_)
              refine g_iload rfl ?_
              refine g_iconst (by decide) (fun v699 kv699 => ?_)
              refine g_irem' (by omega) (fun v700 _ => ?_)
              refine g_imul' (fun v701 ov701 => ?_)
              refine g_isub' (fun v702 ov702 => ?_)
              refine g_ishr' (fun v703 ov703 => ?_)
              refine g_sipush (by decide) (fun v704 kv704 => ?_)
              refine g_iand (by omega) (fun v705 ov705 lv705 uv705 => ?_)
              refine g_iastore hIH640 sm_1 (by omega) (by omega) (fun H706 eH706 hIH706 => ?_)
              have hJH706 : JN H706 := JN_sA (by decide) eH706 hJH640
              have e707 : k0_2 = fZ H706 0 2 := by rw [eH706, fZ_sA]; exact e641
              have ie707 : k0_2.toInt = (fZ H706 0 2).toInt := by rw [← e707]
              refine g_iinc (l' := (fun v708 => [(0, .ref 0), (1, .int a1), (2, .int a2), (3, .int a3), (4, .int a4), (5, .int a5), (6, .int v708), (7, .int a2)])) rfl rfl (by decide) (by omega) (fun _ => rfl) (fun v708 ev708 => ?_)
              refine g_goto ?_
              refine gG_pick [0, 1, 2, 3, 4, 5, 6] (l' := [(0, .ref 0), (1, .int a1), (2, .int a2), (3, .int a3), (4, .int a4), (5, .int a5), (6, .int v708)]) rfl ?_
              exact ihL642 v708 H706 hIH706 hJH706 e707 (by omega) (by omega)
          · refine g_iload_n rfl ?_
            refine g_goto ?_
            refine g_istore (l' := [(0, .ref 0), (1, .int a1), (2, .int a2), (3, .int a3), (4, .int a4), (5, .int a5), (6, .int v639), (7, .int a1)]) rfl rfl ?_
            refine g_aload_n rfl ?_
            refine g_gfr hIH640 sm_0 rfl ?_
            refine g_aload_n rfl ?_
            refine g_gfk hIH640 sm_0 rfl e641 ?_
            refine g_iload rfl ?_
            refine g_iadd (by omega) (fun v709 ev709 => ?_)
            refine g_iload rfl ?_
            refine g_bipush (by decide) (fun v710 kv710 => ?_)
            refine g_bipush (by decide) (fun v711 kv711 => ?_)
            refine g_iload rfl ?_
            refine g_iconst (by decide) (fun v712 kv712 => ?_)
            refine g_irem' (by omega) (fun v713 _ => ?_)
            refine g_imul' (fun v714 ov714 => ?_)
            refine g_isub' (fun v715 ov715 => ?_)
            refine g_ishr' (fun v716 ov716 => ?_)
            refine g_sipush (by decide) (fun v717 kv717 => ?_)
            refine g_iand (by omega) (fun v718 ov718 lv718 uv718 => ?_)
            refine g_iastore hIH640 sm_1 (by omega) (by omega) (fun H719 eH719 hIH719 => ?_)
            have hJH719 : JN H719 := JN_sA (by decide) eH719 hJH640
            have e720 : k0_2 = fZ H719 0 2 := by rw [eH719, fZ_sA]; exact e641
            have ie720 : k0_2.toInt = (fZ H719 0 2).toInt := by rw [← e720]
            refine g_iinc (l' := (fun v721 => [(0, .ref 0), (1, .int a1), (2, .int a2), (3, .int a3), (4, .int a4), (5, .int a5), (6, .int v721), (7, .int a1)])) rfl rfl (by decide) (by omega) (fun _ => rfl) (fun v721 ev721 => ?_)
            refine g_goto ?_
            refine gG_pick [0, 1, 2, 3, 4, 5, 6] (l' := [(0, .ref 0), (1, .int a1), (2, .int a2), (3, .int a3), (4, .int a4), (5, .int a5), (6, .int v721)]) rfl ?_
            exact ihL642 v721 H719 hIH719 hJH719 e720 (by omega) (by omega)
    exact L642 _ v638 H634 hIH634 hJH634 e635 (by omega) (Nat.lt_succ_self _)
  · refine g_iconst (by decide) (fun v722 kv722 => ?_)
    exact g_iret ⟨_, rfl, hIH634, hJH634, (by omega)⟩
set_option maxRecDepth 4000 in
set_option maxHeartbeats 4000000 in
/-- M.here -/
theorem s_156 (H : mzH) (hI : gI SM H) (hJ : JN H) : gCall 156 [.ref 0] H (gRi (fun v H' => H = H' ∧ (-1 ≤ v.toInt ∧ v.toInt ≤ 255) ∧ ((v.toInt = -1 ∧ (fZ H 0 7).toInt ≤ (fZ H 0 8).toInt) ∨ ((fZ H 0 8).toInt < (fZ H 0 7).toInt ∧ v.toInt = (aZ H 1 (fZ H 0 8).toInt.toNat).toInt)))) := by
  obtain ⟨k0_8, ek0_8⟩ : ∃ z, z = fZ H 0 8 := ⟨_, rfl⟩
  have ik0_8 : k0_8.toInt = (fZ H 0 8).toInt := by rw [← ek0_8]
  have bk0_8 : 0 ≤ k0_8.toInt ∧ k0_8.toInt ≤ 900 := by rw [ek0_8]; exact fZ_of hI sm_0 rfl
  obtain ⟨k0_7, ek0_7⟩ : ∃ z, z = fZ H 0 7 := ⟨_, rfl⟩
  have ik0_7 : k0_7.toInt = (fZ H 0 7).toInt := by rw [← ek0_7]
  have bk0_7 : 0 ≤ k0_7.toInt ∧ k0_7.toInt ≤ 900 := by rw [ek0_7]; exact fZ_of hI sm_0 rfl
  refine gG_call [(0, .ref 0)] ⟨rfl, trivial⟩ ?_
  show gG 1 zB_156 (mzBlk zB_156 0) [(0, .ref 0)] [] H 0 0 _
  refine g_aload_n rfl ?_
  refine g_gfk hI sm_0 rfl ek0_8 ?_
  refine g_aload_n rfl ?_
  refine g_gfk hI sm_0 rfl ek0_7 ?_
  refine g_if2_ge (fun c13 => ?_) (fun c13 => ?_)
  · refine g_iconst (by decide) (fun v14 kv14 => ?_)
    refine g_nop ?_
    exact g_iret ⟨_, rfl, rfl, (by omega), (.inl ⟨by omega, by omega⟩)⟩
  · refine g_aload_n rfl ?_
    refine g_gfr hI sm_0 rfl ?_
    refine g_aload_n rfl ?_
    refine g_gfk hI sm_0 rfl ek0_8 ?_
    refine g_iaload hI sm_1 rfl (by omega) (fun v15 ev15 lv15 uv15 => ?_)
    refine g_goto ?_
    exact g_iret ⟨_, rfl, rfl, (by omega), (.inr ⟨by omega, by rw [ev15, ek0_8]⟩)⟩
set_option maxRecDepth 4000 in
set_option maxHeartbeats 4000000 in
/-- M.isSmall -/
theorem s_157 (a0 : Int32) (H : mzH) (hI : gI SM H) (hJ : JN H) : gCall 157 [.int a0] H (gRi (fun v H' => H = H' ∧ (0 ≤ v.toInt ∧ v.toInt ≤ 1) ∧ (v.toInt = 0 ∨ (97 ≤ a0.toInt ∧ a0.toInt ≤ 122)) ∧ (¬ v.toInt = 0 ∨ a0.toInt < 97 ∨ 122 < a0.toInt))) := by
  refine gG_call [(0, .int a0)] ⟨rfl, trivial⟩ ?_
  show gG 1 zB_157 (mzBlk zB_157 0) [(0, .int a0)] [] H 0 0 _
  refine g_iload_n rfl ?_
  refine g_bipush (by decide) (fun v29 kv29 => ?_)
  refine g_if2_lt (fun c30 => ?_) (fun c30 => ?_)
  · refine g_iconst (by decide) (fun v31 kv31 => ?_)
    refine g_nop ?_
    exact g_zret (by omega) ⟨_, rfl, rfl, (by omega), (by omega), (by omega)⟩
  · refine g_iload_n rfl ?_
    refine g_bipush (by decide) (fun v32 kv32 => ?_)
    refine g_if2_gt (fun c33 => ?_) (fun c33 => ?_)
    · refine g_iconst (by decide) (fun v34 kv34 => ?_)
      refine g_nop ?_
      exact g_zret (by omega) ⟨_, rfl, rfl, (by omega), (by omega), (by omega)⟩
    · refine g_iconst (by decide) (fun v35 kv35 => ?_)
      refine g_goto ?_
      exact g_zret (by omega) ⟨_, rfl, rfl, (by omega), (by omega), (by omega)⟩
set_option maxRecDepth 4000 in
set_option maxHeartbeats 4000000 in
/-- M.isDigit -/
theorem s_158 (a0 : Int32) (H : mzH) (hI : gI SM H) (hJ : JN H) : gCall 158 [.int a0] H (gRi (fun v H' => H = H' ∧ (0 ≤ v.toInt ∧ v.toInt ≤ 1) ∧ (v.toInt = 0 ∨ (48 ≤ a0.toInt ∧ a0.toInt ≤ 57)) ∧ (¬ v.toInt = 0 ∨ a0.toInt < 48 ∨ 57 < a0.toInt))) := by
  refine gG_call [(0, .int a0)] ⟨rfl, trivial⟩ ?_
  show gG 1 zB_158 (mzBlk zB_158 0) [(0, .int a0)] [] H 0 0 _
  refine g_iload_n rfl ?_
  refine g_bipush (by decide) (fun v29 kv29 => ?_)
  refine g_if2_lt (fun c30 => ?_) (fun c30 => ?_)
  · refine g_iconst (by decide) (fun v31 kv31 => ?_)
    refine g_nop ?_
    exact g_zret (by omega) ⟨_, rfl, rfl, (by omega), (by omega), (by omega)⟩
  · refine g_iload_n rfl ?_
    refine g_bipush (by decide) (fun v32 kv32 => ?_)
    refine g_if2_gt (fun c33 => ?_) (fun c33 => ?_)
    · refine g_iconst (by decide) (fun v34 kv34 => ?_)
      refine g_nop ?_
      exact g_zret (by omega) ⟨_, rfl, rfl, (by omega), (by omega), (by omega)⟩
    · refine g_iconst (by decide) (fun v35 kv35 => ?_)
      refine g_goto ?_
      exact g_zret (by omega) ⟨_, rfl, rfl, (by omega), (by omega), (by omega)⟩
set_option maxRecDepth 4000 in
set_option maxHeartbeats 4000000 in
/-- M.wordHere -/
theorem s_160 (H : mzH) (hI : gI SM H) (hJ : JN H) : gCall 160 [.ref 0] H (gRi (fun v H' => H = H')) := by
  obtain ⟨k0_8, ek0_8⟩ : ∃ z, z = fZ H 0 8 := ⟨_, rfl⟩
  have ik0_8 : k0_8.toInt = (fZ H 0 8).toInt := by rw [← ek0_8]
  have bk0_8 : 0 ≤ k0_8.toInt ∧ k0_8.toInt ≤ 900 := by rw [ek0_8]; exact fZ_of hI sm_0 rfl
  obtain ⟨k0_9, ek0_9⟩ : ∃ z, z = fZ H 0 9 := ⟨_, rfl⟩
  have ik0_9 : k0_9.toInt = (fZ H 0 9).toInt := by rw [← ek0_9]
  have bk0_9 : 0 ≤ k0_9.toInt ∧ k0_9.toInt ≤ 900 := by rw [ek0_9]; exact fZ_of hI sm_0 rfl
  refine gG_call [(0, .ref 0)] ⟨rfl, trivial⟩ ?_
  show gG 4 zB_160 (mzBlk zB_160 0) [(0, .ref 0)] [] H 0 0 _
  refine g_iconst (by decide) (fun v1779 kv1779 => ?_)
  refine g_istore_n (l' := [(0, .ref 0), (1, .int v1779)]) rfl rfl ?_
  refine g_iconst (by decide) (fun v1780 kv1780 => ?_)
  refine g_istore_n (l' := [(0, .ref 0), (1, .int v1779), (2, .int v1780)]) rfl rfl ?_
  refine g_nop ?_
  have L1783 : ∀ (N : Nat) (v1781 : Int32) (v1782 : Int32), (0 ≤ v1782.toInt ∧ v1782.toInt ≤ 91) → (91 - v1782.toInt).toNat < N → gG 4 zB_160 (mzBlk zB_160 1) [(0, .ref 0), (1, .int v1781), (2, .int v1782)] [] H 0 0 (gRi (fun v H' => H = H')) := by
    intro N
    induction N with
    | zero => intro v1781 v1782 bv1782 hmL1783; exact absurd hmL1783 (Nat.not_lt_zero _)
    | succ N ihL1783 =>
      intro v1781 v1782 bv1782 hmL1783
      refine g_iload_n rfl ?_
      refine g_strl (by decide) rfl (fun v1784 kv1784 => ?_)
      refine g_if2_ge (fun c1785 => ?_) (fun c1785 => ?_)
      · refine g_iconst (by decide) (fun v1786 kv1786 => ?_)
        exact g_iret ⟨_, rfl, rfl⟩
      · refine g_iconst (by decide) (fun v1787 kv1787 => ?_)
        refine g_istore_n (l' := [(0, .ref 0), (1, .int v1781), (2, .int v1782), (3, .int v1787)]) rfl rfl ?_
        refine g_nop ?_
        have L1789 : ∀ (N : Nat) (v1788 : Int32), (0 ≤ v1788.toInt ∧ v1788.toInt ≤ 91) → v1782.toInt + v1788.toInt ≤ 90 → (91 - v1788.toInt).toNat < N → gG 4 zB_160 (mzBlk zB_160 2) [(0, .ref 0), (1, .int v1781), (2, .int v1782), (3, .int v1788)] [] H 0 0 (gRi (fun v H' => H = H')) := by
          intro N
          induction N with
          | zero => intro v1788 bv1788 q1 hmL1789; exact absurd hmL1789 (Nat.not_lt_zero _)
          | succ N ihL1789 =>
            intro v1788 bv1788 q1 hmL1789
            refine g_str2 (by decide) rfl rfl rfl (by omega) (fun v1790 ev1790 lv1790 uv1790 dv1790 => ?_)
            refine g_bipush (by decide) (fun v1791 kv1791 => ?_)
            refine g_if2_eq (fun c1792 => ?_) (fun c1792 => ?_)
            · refine g_str2 (by decide) rfl rfl rfl (by omega) (fun v1793 ev1793 lv1793 uv1793 dv1793 => ?_)
              refine g_bipush (by decide) (fun v1794 kv1794 => ?_)
              refine g_if2_ne (fun c1795 => ?_) (fun c1795 => ?_)
              · have L1797 : ∀ (N : Nat) (v1796 : Int32), (0 ≤ v1796.toInt ∧ v1796.toInt ≤ 90) → v1782.toInt ≤ v1796.toInt → (90 - v1796.toInt).toNat < N → gG 4 zB_160 (mzBlk zB_160 4) [(0, .ref 0), (1, .int v1781), (2, .int v1796), (3, .int v1788)] [] H 0 0 (gRi (fun v H' => H = H')) := by
                  intro N
                  induction N with
                  | zero => intro v1796 bv1796 q2 hmL1797; exact absurd hmL1797 (Nat.not_lt_zero _)
                  | succ N ihL1797 =>
                    intro v1796 bv1796 q2 hmL1797
                    refine g_str1 (by decide) rfl rfl (by omega) (fun v1798 ev1798 lv1798 uv1798 dv1798 => ?_)
                    refine g_bipush (by decide) (fun v1799 kv1799 => ?_)
                    refine g_if2_eq (fun c1800 => ?_) (fun c1800 => ?_)
                    · refine g_iinc (l' := (fun v1801 => [(0, .ref 0), (1, .int v1781), (2, .int v1801), (3, .int v1788)])) rfl rfl (by decide) (by omega) (fun _ => rfl) (fun v1801 ev1801 => ?_)
                      refine g_iinc' (l' := (fun v1802 => [(0, .ref 0), (1, .int v1802), (2, .int v1801), (3, .int v1788)])) rfl rfl (fun _ => rfl) (fun v1802 => ?_)
                      refine g_goto ?_
                      refine gG_pick [0, 1, 2] (l' := [(0, .ref 0), (1, .int v1802), (2, .int v1801)]) rfl ?_
                      exact ihL1783 v1802 v1801 (by omega) (by omega)
                    · refine g_iinc (l' := (fun v1803 => [(0, .ref 0), (1, .int v1781), (2, .int v1803), (3, .int v1788)])) rfl rfl (by decide) (by omega) (fun _ => rfl) (fun v1803 ev1803 => ?_)
                      refine g_goto ?_
                      exact ihL1797 v1803 (by omega) (by omega) (by omega)
                exact L1797 _ v1782 (by omega) (by omega) (Nat.lt_succ_self _)
              · refine g_aload_n rfl ?_
                refine g_gfk hI sm_0 rfl ek0_9 ?_
                refine g_iload_n rfl ?_
                refine g_iadd (by omega) (fun v1804 ev1804 => ?_)
                refine g_aload_n rfl ?_
                refine g_gfk hI sm_0 rfl ek0_8 ?_
                refine g_if2_ne (fun c1805 => ?_) (fun c1805 => ?_)
                · have L1807 : ∀ (N : Nat) (v1806 : Int32), (0 ≤ v1806.toInt ∧ v1806.toInt ≤ 90) → v1782.toInt ≤ v1806.toInt → (90 - v1806.toInt).toNat < N → gG 4 zB_160 (mzBlk zB_160 4) [(0, .ref 0), (1, .int v1781), (2, .int v1806), (3, .int v1788)] [] H 0 0 (gRi (fun v H' => H = H')) := by
                    intro N
                    induction N with
                    | zero => intro v1806 bv1806 q2 hmL1807; exact absurd hmL1807 (Nat.not_lt_zero _)
                    | succ N ihL1807 =>
                      intro v1806 bv1806 q2 hmL1807
                      refine g_str1 (by decide) rfl rfl (by omega) (fun v1808 ev1808 lv1808 uv1808 dv1808 => ?_)
                      refine g_bipush (by decide) (fun v1809 kv1809 => ?_)
                      refine g_if2_eq (fun c1810 => ?_) (fun c1810 => ?_)
                      · refine g_iinc (l' := (fun v1811 => [(0, .ref 0), (1, .int v1781), (2, .int v1811), (3, .int v1788)])) rfl rfl (by decide) (by omega) (fun _ => rfl) (fun v1811 ev1811 => ?_)
                        refine g_iinc' (l' := (fun v1812 => [(0, .ref 0), (1, .int v1812), (2, .int v1811), (3, .int v1788)])) rfl rfl (fun _ => rfl) (fun v1812 => ?_)
                        refine g_goto ?_
                        refine gG_pick [0, 1, 2] (l' := [(0, .ref 0), (1, .int v1812), (2, .int v1811)]) rfl ?_
                        exact ihL1783 v1812 v1811 (by omega) (by omega)
                      · refine g_iinc (l' := (fun v1813 => [(0, .ref 0), (1, .int v1781), (2, .int v1813), (3, .int v1788)])) rfl rfl (by decide) (by omega) (fun _ => rfl) (fun v1813 ev1813 => ?_)
                        refine g_goto ?_
                        exact ihL1807 v1813 (by omega) (by omega) (by omega)
                  exact L1807 _ v1782 (by omega) (by omega) (Nat.lt_succ_self _)
                · refine g_iload_n rfl ?_
                  exact g_iret ⟨_, rfl, rfl⟩
            · refine g_aload_n rfl ?_
              refine g_gfk hI sm_0 rfl ek0_9 ?_
              refine g_iload_n rfl ?_
              refine g_iadd (by omega) (fun v1814 ev1814 => ?_)
              refine g_aload_n rfl ?_
              refine g_gfk hI sm_0 rfl ek0_8 ?_
              refine g_if2_ge (fun c1815 => ?_) (fun c1815 => ?_)
              · refine g_str2 (by decide) rfl rfl rfl (by omega) (fun v1816 ev1816 lv1816 uv1816 dv1816 => ?_)
                refine g_bipush (by decide) (fun v1817 kv1817 => ?_)
                refine g_if2_ne (fun c1818 => ?_) (fun c1818 => ?_)
                · have L1820 : ∀ (N : Nat) (v1819 : Int32), (0 ≤ v1819.toInt ∧ v1819.toInt ≤ 90) → v1782.toInt ≤ v1819.toInt → (90 - v1819.toInt).toNat < N → gG 4 zB_160 (mzBlk zB_160 4) [(0, .ref 0), (1, .int v1781), (2, .int v1819), (3, .int v1788)] [] H 0 0 (gRi (fun v H' => H = H')) := by
                    intro N
                    induction N with
                    | zero => intro v1819 bv1819 q2 hmL1820; exact absurd hmL1820 (Nat.not_lt_zero _)
                    | succ N ihL1820 =>
                      intro v1819 bv1819 q2 hmL1820
                      refine g_str1 (by decide) rfl rfl (by omega) (fun v1821 ev1821 lv1821 uv1821 dv1821 => ?_)
                      refine g_bipush (by decide) (fun v1822 kv1822 => ?_)
                      refine g_if2_eq (fun c1823 => ?_) (fun c1823 => ?_)
                      · refine g_iinc (l' := (fun v1824 => [(0, .ref 0), (1, .int v1781), (2, .int v1824), (3, .int v1788)])) rfl rfl (by decide) (by omega) (fun _ => rfl) (fun v1824 ev1824 => ?_)
                        refine g_iinc' (l' := (fun v1825 => [(0, .ref 0), (1, .int v1825), (2, .int v1824), (3, .int v1788)])) rfl rfl (fun _ => rfl) (fun v1825 => ?_)
                        refine g_goto ?_
                        refine gG_pick [0, 1, 2] (l' := [(0, .ref 0), (1, .int v1825), (2, .int v1824)]) rfl ?_
                        exact ihL1783 v1825 v1824 (by omega) (by omega)
                      · refine g_iinc (l' := (fun v1826 => [(0, .ref 0), (1, .int v1781), (2, .int v1826), (3, .int v1788)])) rfl rfl (by decide) (by omega) (fun _ => rfl) (fun v1826 ev1826 => ?_)
                        refine g_goto ?_
                        exact ihL1820 v1826 (by omega) (by omega) (by omega)
                  exact L1820 _ v1782 (by omega) (by omega) (Nat.lt_succ_self _)
                · refine g_aload_n rfl ?_
                  refine g_gfk hI sm_0 rfl ek0_9 ?_
                  refine g_iload_n rfl ?_
                  refine g_iadd (by omega) (fun v1827 ev1827 => ?_)
                  refine g_aload_n rfl ?_
                  refine g_gfk hI sm_0 rfl ek0_8 ?_
                  refine g_if2_ne (fun c1828 => ?_) (fun c1828 => ?_)
                  · have L1830 : ∀ (N : Nat) (v1829 : Int32), (0 ≤ v1829.toInt ∧ v1829.toInt ≤ 90) → v1782.toInt ≤ v1829.toInt → (90 - v1829.toInt).toNat < N → gG 4 zB_160 (mzBlk zB_160 4) [(0, .ref 0), (1, .int v1781), (2, .int v1829), (3, .int v1788)] [] H 0 0 (gRi (fun v H' => H = H')) := by
                      intro N
                      induction N with
                      | zero => intro v1829 bv1829 q2 hmL1830; exact absurd hmL1830 (Nat.not_lt_zero _)
                      | succ N ihL1830 =>
                        intro v1829 bv1829 q2 hmL1830
                        refine g_str1 (by decide) rfl rfl (by omega) (fun v1831 ev1831 lv1831 uv1831 dv1831 => ?_)
                        refine g_bipush (by decide) (fun v1832 kv1832 => ?_)
                        refine g_if2_eq (fun c1833 => ?_) (fun c1833 => ?_)
                        · refine g_iinc (l' := (fun v1834 => [(0, .ref 0), (1, .int v1781), (2, .int v1834), (3, .int v1788)])) rfl rfl (by decide) (by omega) (fun _ => rfl) (fun v1834 ev1834 => ?_)
                          refine g_iinc' (l' := (fun v1835 => [(0, .ref 0), (1, .int v1835), (2, .int v1834), (3, .int v1788)])) rfl rfl (fun _ => rfl) (fun v1835 => ?_)
                          refine g_goto ?_
                          refine gG_pick [0, 1, 2] (l' := [(0, .ref 0), (1, .int v1835), (2, .int v1834)]) rfl ?_
                          exact ihL1783 v1835 v1834 (by omega) (by omega)
                        · refine g_iinc (l' := (fun v1836 => [(0, .ref 0), (1, .int v1781), (2, .int v1836), (3, .int v1788)])) rfl rfl (by decide) (by omega) (fun _ => rfl) (fun v1836 ev1836 => ?_)
                          refine g_goto ?_
                          exact ihL1830 v1836 (by omega) (by omega) (by omega)
                    exact L1830 _ v1782 (by omega) (by omega) (Nat.lt_succ_self _)
                  · refine g_iload_n rfl ?_
                    exact g_iret ⟨_, rfl, rfl⟩
              · refine g_aload_n rfl ?_
                refine g_gfr hI sm_0 rfl ?_
                refine g_aload_n rfl ?_
                refine g_gfk hI sm_0 rfl ek0_9 ?_
                refine g_iload_n rfl ?_
                refine g_iadd (by omega) (fun v1837 ev1837 => ?_)
                refine g_iaload hI sm_1 rfl (by omega) (fun v1838 ev1838 lv1838 uv1838 => ?_)
                refine g_str2 (by decide) rfl rfl rfl (by omega) (fun v1839 ev1839 lv1839 uv1839 dv1839 => ?_)
                refine g_if2_ne (fun c1840 => ?_) (fun c1840 => ?_)
                · refine g_str2 (by decide) rfl rfl rfl (by omega) (fun v1841 ev1841 lv1841 uv1841 dv1841 => ?_)
                  refine g_bipush (by decide) (fun v1842 kv1842 => ?_)
                  refine g_if2_ne (fun c1843 => ?_) (fun c1843 => ?_)
                  · have L1845 : ∀ (N : Nat) (v1844 : Int32), (0 ≤ v1844.toInt ∧ v1844.toInt ≤ 90) → v1782.toInt ≤ v1844.toInt → (90 - v1844.toInt).toNat < N → gG 4 zB_160 (mzBlk zB_160 4) [(0, .ref 0), (1, .int v1781), (2, .int v1844), (3, .int v1788)] [] H 0 0 (gRi (fun v H' => H = H')) := by
                      intro N
                      induction N with
                      | zero => intro v1844 bv1844 q2 hmL1845; exact absurd hmL1845 (Nat.not_lt_zero _)
                      | succ N ihL1845 =>
                        intro v1844 bv1844 q2 hmL1845
                        refine g_str1 (by decide) rfl rfl (by omega) (fun v1846 ev1846 lv1846 uv1846 dv1846 => ?_)
                        refine g_bipush (by decide) (fun v1847 kv1847 => ?_)
                        refine g_if2_eq (fun c1848 => ?_) (fun c1848 => ?_)
                        · refine g_iinc (l' := (fun v1849 => [(0, .ref 0), (1, .int v1781), (2, .int v1849), (3, .int v1788)])) rfl rfl (by decide) (by omega) (fun _ => rfl) (fun v1849 ev1849 => ?_)
                          refine g_iinc' (l' := (fun v1850 => [(0, .ref 0), (1, .int v1850), (2, .int v1849), (3, .int v1788)])) rfl rfl (fun _ => rfl) (fun v1850 => ?_)
                          refine g_goto ?_
                          refine gG_pick [0, 1, 2] (l' := [(0, .ref 0), (1, .int v1850), (2, .int v1849)]) rfl ?_
                          exact ihL1783 v1850 v1849 (by omega) (by omega)
                        · refine g_iinc (l' := (fun v1851 => [(0, .ref 0), (1, .int v1781), (2, .int v1851), (3, .int v1788)])) rfl rfl (by decide) (by omega) (fun _ => rfl) (fun v1851 ev1851 => ?_)
                          refine g_goto ?_
                          exact ihL1845 v1851 (by omega) (by omega) (by omega)
                    exact L1845 _ v1782 (by omega) (by omega) (Nat.lt_succ_self _)
                  · refine g_aload_n rfl ?_
                    refine g_gfk hI sm_0 rfl ek0_9 ?_
                    refine g_iload_n rfl ?_
                    refine g_iadd (by omega) (fun v1852 ev1852 => ?_)
                    refine g_aload_n rfl ?_
                    refine g_gfk hI sm_0 rfl ek0_8 ?_
                    refine g_if2_ne (fun c1853 => ?_) (fun c1853 => ?_)
                    · have L1855 : ∀ (N : Nat) (v1854 : Int32), (0 ≤ v1854.toInt ∧ v1854.toInt ≤ 90) → v1782.toInt ≤ v1854.toInt → (90 - v1854.toInt).toNat < N → gG 4 zB_160 (mzBlk zB_160 4) [(0, .ref 0), (1, .int v1781), (2, .int v1854), (3, .int v1788)] [] H 0 0 (gRi (fun v H' => H = H')) := by
                        intro N
                        induction N with
                        | zero => intro v1854 bv1854 q2 hmL1855; exact absurd hmL1855 (Nat.not_lt_zero _)
                        | succ N ihL1855 =>
                          intro v1854 bv1854 q2 hmL1855
                          refine g_str1 (by decide) rfl rfl (by omega) (fun v1856 ev1856 lv1856 uv1856 dv1856 => ?_)
                          refine g_bipush (by decide) (fun v1857 kv1857 => ?_)
                          refine g_if2_eq (fun c1858 => ?_) (fun c1858 => ?_)
                          · refine g_iinc (l' := (fun v1859 => [(0, .ref 0), (1, .int v1781), (2, .int v1859), (3, .int v1788)])) rfl rfl (by decide) (by omega) (fun _ => rfl) (fun v1859 ev1859 => ?_)
                            refine g_iinc' (l' := (fun v1860 => [(0, .ref 0), (1, .int v1860), (2, .int v1859), (3, .int v1788)])) rfl rfl (fun _ => rfl) (fun v1860 => ?_)
                            refine g_goto ?_
                            refine gG_pick [0, 1, 2] (l' := [(0, .ref 0), (1, .int v1860), (2, .int v1859)]) rfl ?_
                            exact ihL1783 v1860 v1859 (by omega) (by omega)
                          · refine g_iinc (l' := (fun v1861 => [(0, .ref 0), (1, .int v1781), (2, .int v1861), (3, .int v1788)])) rfl rfl (by decide) (by omega) (fun _ => rfl) (fun v1861 ev1861 => ?_)
                            refine g_goto ?_
                            exact ihL1855 v1861 (by omega) (by omega) (by omega)
                      exact L1855 _ v1782 (by omega) (by omega) (Nat.lt_succ_self _)
                    · refine g_iload_n rfl ?_
                      exact g_iret ⟨_, rfl, rfl⟩
                · refine g_iinc (l' := (fun v1862 => [(0, .ref 0), (1, .int v1781), (2, .int v1782), (3, .int v1862)])) rfl rfl (by decide) (by omega) (fun _ => rfl) (fun v1862 ev1862 => ?_)
                  refine g_goto ?_
                  exact ihL1789 v1862 (by omega) (by omega) (by omega)
        exact L1789 _ v1787 (by omega) (by omega) (Nat.lt_succ_self _)
  exact L1783 _ v1779 v1780 (by omega) (Nat.lt_succ_self _)
set_option maxRecDepth 4000 in
set_option maxHeartbeats 4000000 in
/-- M.token -/
theorem s_159 (H : mzH) (hI : gI SM H) (hJ : JN H) : gCall 159 [.ref 0] H (gRv (fun H' => gI SM H' ∧ JN H' ∧ fZ H' 0 2 = fZ H 0 2 ∧ fZ H' 0 13 = fZ H 0 13 ∧ fZ H' 0 7 = fZ H 0 7 ∧ fZ H' 0 19 = fZ H 0 19 ∧ (∀ a i, aZ H' a i = aZ H a i) ∧ (fZ H 0 8).toInt ≤ (fZ H' 0 8).toInt ∧ ((fZ H' 0 10).toInt = 3 ∨ (fZ H 0 8).toInt < (fZ H' 0 8).toInt))) := by
  obtain ⟨k0_2, ek0_2⟩ : ∃ z, z = fZ H 0 2 := ⟨_, rfl⟩
  have ik0_2 : k0_2.toInt = (fZ H 0 2).toInt := by rw [← ek0_2]
  have bk0_2 : 0 ≤ k0_2.toInt ∧ k0_2.toInt ≤ 900 := by rw [ek0_2]; exact fZ_of hI sm_0 rfl
  obtain ⟨k0_13, ek0_13⟩ : ∃ z, z = fZ H 0 13 := ⟨_, rfl⟩
  have ik0_13 : k0_13.toInt = (fZ H 0 13).toInt := by rw [← ek0_13]
  obtain ⟨k0_7, ek0_7⟩ : ∃ z, z = fZ H 0 7 := ⟨_, rfl⟩
  have ik0_7 : k0_7.toInt = (fZ H 0 7).toInt := by rw [← ek0_7]
  have bk0_7 : 0 ≤ k0_7.toInt ∧ k0_7.toInt ≤ 900 := by rw [ek0_7]; exact fZ_of hI sm_0 rfl
  obtain ⟨k0_19, ek0_19⟩ : ∃ z, z = fZ H 0 19 := ⟨_, rfl⟩
  have ik0_19 : k0_19.toInt = (fZ H 0 19).toInt := by rw [← ek0_19]
  obtain ⟨k0_8, ek0_8⟩ : ∃ z, z = fZ H 0 8 := ⟨_, rfl⟩
  have ik0_8 : k0_8.toInt = (fZ H 0 8).toInt := by rw [← ek0_8]
  have bk0_8 : 0 ≤ k0_8.toInt ∧ k0_8.toInt ≤ 900 := by rw [ek0_8]; exact fZ_of hI sm_0 rfl
  have mkall : ∀ a i, aZ H a i = aZ H a i := fun _ _ => rfl
  refine gG_call [(0, .ref 0)] ⟨rfl, trivial⟩ ?_
  show gG 2 zB_159 (mzBlk zB_159 0) [(0, .ref 0)] [] H 0 0 _
  refine g_aload_n rfl ?_
  refine g_invvi hI sm_0 rfl rfl rfl rfl (s_156 H hI hJ) (fun v1607 H1605 r1606 => ?_)
  obtain ⟨rfl, bv1607, p1608⟩ := r1606
  have nv1607 : (v1607.toInt = -1 ∧ k0_7.toInt ≤ k0_8.toInt) ∨ (k0_8.toInt < k0_7.toInt ∧ v1607.toInt = (aZ H 1 k0_8.toInt.toNat).toInt) := by rw [ek0_8, ek0_7, ← mkall]; exact p1608
  refine g_bipush (by decide) (fun v1609 kv1609 => ?_)
  refine g_if2_eq (fun c1610 => ?_) (fun c1610 => ?_)
  · refine g_aload_n rfl ?_
    refine g_dup rfl ?_
    refine g_gfk hI sm_0 rfl ek0_8 ?_
    refine g_iconst (by decide) (fun v1611 kv1611 => ?_)
    refine g_iadd (by omega) (fun v1612 ev1612 => ?_)
    refine g_pfi hI sm_0 rfl (by omega) (fun H1613 eH1613 hIH1613 => ?_)
    have hJH1613 : JN H1613 := JN_sF eH1613 hJ
    have e1614 : k0_2 = fZ H1613 0 2 := by rw [eH1613, fZ_sF_ne (by decide)]; exact ek0_2
    have e1615 : k0_13 = fZ H1613 0 13 := by rw [eH1613, fZ_sF_ne (by decide)]; exact ek0_13
    have e1616 : k0_7 = fZ H1613 0 7 := by rw [eH1613, fZ_sF_ne (by decide)]; exact ek0_7
    have e1617 : k0_19 = fZ H1613 0 19 := by rw [eH1613, fZ_sF_ne (by decide)]; exact ek0_19
    have e1618 : v1612 = fZ H1613 0 8 := by rw [eH1613, fZ_sF_eq hI sm_0 rfl]
    have m1619 : ∀ a i, aZ H1613 a i = aZ H a i := fun a i => (by rw [eH1613, aZ_sF] : aZ H1613 a i = aZ H a i).trans (mkall a i)
    have jj1620_10 : (fZ H1613 0 10).toInt = (fZ H 0 10).toInt := by rw [eH1613, fZ_sF_ne (by decide)]
    have jj1621_9 : (fZ H1613 0 9).toInt = (fZ H 0 9).toInt := by rw [eH1613, fZ_sF_ne (by decide)]
    have ie1616 : k0_7.toInt = (fZ H1613 0 7).toInt := by rw [← e1616]
    have ie1618 : v1612.toInt = (fZ H1613 0 8).toInt := by rw [← e1618]
    refine g_goto ?_
    have L1628 : ∀ (N : Nat) (H1622 : mzH), gI SM H1622 → JN H1622 → k0_2 = fZ H1622 0 2 → k0_13 = fZ H1622 0 13 → k0_7 = fZ H1622 0 7 → k0_19 = fZ H1622 0 19 → (∀ a i, aZ H1622 a i = aZ H a i) → (fZ H 0 8).toInt ≤ (fZ H1622 0 8).toInt → (900 - (fZ H1622 0 8).toInt).toNat < N → gG 2 zB_159 (mzBlk zB_159 0) [(0, .ref 0)] [] H1622 0 0 (gRv (fun H' => gI SM H' ∧ JN H' ∧ fZ H' 0 2 = fZ H 0 2 ∧ fZ H' 0 13 = fZ H 0 13 ∧ fZ H' 0 7 = fZ H 0 7 ∧ fZ H' 0 19 = fZ H 0 19 ∧ (∀ a i, aZ H' a i = aZ H a i) ∧ (fZ H 0 8).toInt ≤ (fZ H' 0 8).toInt ∧ ((fZ H' 0 10).toInt = 3 ∨ (fZ H 0 8).toInt < (fZ H' 0 8).toInt))) := by
      intro N
      induction N with
      | zero => intro H1622 hIH1622 hJH1622 e1623 e1624 e1625 e1626 m1627 q2 hmL1628; exact absurd hmL1628 (Nat.not_lt_zero _)
      | succ N ihL1628 =>
        intro H1622 hIH1622 hJH1622 e1623 e1624 e1625 e1626 m1627 q2 hmL1628
        obtain ⟨k1629, ek1629⟩ : ∃ z, z = fZ H1622 0 8 := ⟨_, rfl⟩
        have ik1629 : k1629.toInt = (fZ H1622 0 8).toInt := by rw [← ek1629]
        have bk1629 : 0 ≤ k1629.toInt ∧ k1629.toInt ≤ 900 := by rw [ek1629]; exact fZ_of hIH1622 sm_0 rfl
        refine g_aload_n rfl ?_
        refine g_invvi hIH1622 sm_0 rfl rfl rfl rfl (s_156 H1622 hIH1622 hJH1622) (fun v1632 H1630 r1631 => ?_)
        obtain ⟨rfl, bv1632, p1633⟩ := r1631
        have nv1632 : (v1632.toInt = -1 ∧ k0_7.toInt ≤ k1629.toInt) ∨ (k1629.toInt < k0_7.toInt ∧ v1632.toInt = (aZ H 1 k1629.toInt.toNat).toInt) := by rw [ek1629, e1625, ← m1627]; exact p1633
        refine g_bipush (by decide) (fun v1634 kv1634 => ?_)
        refine g_if2_eq (fun c1635 => ?_) (fun c1635 => ?_)
        · refine g_aload_n rfl ?_
          refine g_dup rfl ?_
          refine g_gfk hIH1622 sm_0 rfl ek1629 ?_
          refine g_iconst (by decide) (fun v1636 kv1636 => ?_)
          refine g_iadd (by omega) (fun v1637 ev1637 => ?_)
          refine g_pfi hIH1622 sm_0 rfl (by omega) (fun H1638 eH1638 hIH1638 => ?_)
          have hJH1638 : JN H1638 := JN_sF eH1638 hJH1622
          have e1639 : k0_2 = fZ H1638 0 2 := by rw [eH1638, fZ_sF_ne (by decide)]; exact e1623
          have e1640 : k0_13 = fZ H1638 0 13 := by rw [eH1638, fZ_sF_ne (by decide)]; exact e1624
          have e1641 : k0_7 = fZ H1638 0 7 := by rw [eH1638, fZ_sF_ne (by decide)]; exact e1625
          have e1642 : k0_19 = fZ H1638 0 19 := by rw [eH1638, fZ_sF_ne (by decide)]; exact e1626
          have e1643 : v1637 = fZ H1638 0 8 := by rw [eH1638, fZ_sF_eq hIH1622 sm_0 rfl]
          have m1644 : ∀ a i, aZ H1638 a i = aZ H a i := fun a i => (by rw [eH1638, aZ_sF] : aZ H1638 a i = aZ H1622 a i).trans (m1627 a i)
          have jj1645_10 : (fZ H1638 0 10).toInt = (fZ H1622 0 10).toInt := by rw [eH1638, fZ_sF_ne (by decide)]
          have jj1646_9 : (fZ H1638 0 9).toInt = (fZ H1622 0 9).toInt := by rw [eH1638, fZ_sF_ne (by decide)]
          have ie1641 : k0_7.toInt = (fZ H1638 0 7).toInt := by rw [← e1641]
          have ie1643 : v1637.toInt = (fZ H1638 0 8).toInt := by rw [← e1643]
          refine g_goto ?_
          exact ihL1628 H1638 hIH1638 hJH1638 e1639 e1640 e1641 e1642 m1644 (by omega) (by omega)
        · refine g_aload_n rfl ?_
          refine g_invvi hIH1622 sm_0 rfl rfl rfl rfl (s_156 H1622 hIH1622 hJH1622) (fun v1649 H1647 r1648 => ?_)
          obtain ⟨rfl, bv1649, p1650⟩ := r1648
          have nv1649 : (v1649.toInt = -1 ∧ k0_7.toInt ≤ k1629.toInt) ∨ (k1629.toInt < k0_7.toInt ∧ v1649.toInt = (aZ H 1 k1629.toInt.toNat).toInt) := by rw [ek1629, e1625, ← m1627]; exact p1650
          refine g_bipush (by decide) (fun v1651 kv1651 => ?_)
          refine g_if2_ne (fun c1652 => ?_) (fun c1652 => ?_)
          · refine g_aload_n rfl ?_
            refine g_aload_n rfl ?_
            refine g_gfk hIH1622 sm_0 rfl ek1629 ?_
            refine g_pfi hIH1622 sm_0 rfl (by omega) (fun H1653 eH1653 hIH1653 => ?_)
            have hJH1653 : JN H1653 := JN_sF eH1653 hJH1622
            have e1654 : k0_2 = fZ H1653 0 2 := by rw [eH1653, fZ_sF_ne (by decide)]; exact e1623
            have e1655 : k0_13 = fZ H1653 0 13 := by rw [eH1653, fZ_sF_ne (by decide)]; exact e1624
            have e1656 : k0_7 = fZ H1653 0 7 := by rw [eH1653, fZ_sF_ne (by decide)]; exact e1625
            have e1657 : k0_19 = fZ H1653 0 19 := by rw [eH1653, fZ_sF_ne (by decide)]; exact e1626
            have e1658 : k1629 = fZ H1653 0 8 := by rw [eH1653, fZ_sF_ne (by decide)]; exact ek1629
            have e1659 : k1629 = fZ H1653 0 9 := by rw [eH1653, fZ_sF_eq hIH1622 sm_0 rfl]
            have m1660 : ∀ a i, aZ H1653 a i = aZ H a i := fun a i => (by rw [eH1653, aZ_sF] : aZ H1653 a i = aZ H1622 a i).trans (m1627 a i)
            have jj1661_10 : (fZ H1653 0 10).toInt = (fZ H1622 0 10).toInt := by rw [eH1653, fZ_sF_ne (by decide)]
            have ie1656 : k0_7.toInt = (fZ H1653 0 7).toInt := by rw [← e1656]
            have ie1658 : k1629.toInt = (fZ H1653 0 8).toInt := by rw [← e1658]
            have ie1659 : k1629.toInt = (fZ H1653 0 9).toInt := by rw [← e1659]
            refine g_aload_n rfl ?_
            refine g_invvi hIH1653 sm_0 rfl rfl rfl rfl (s_156 H1653 hIH1653 hJH1653) (fun v1664 H1662 r1663 => ?_)
            obtain ⟨rfl, bv1664, p1665⟩ := r1663
            have nv1664 : (v1664.toInt = -1 ∧ k0_7.toInt ≤ k1629.toInt) ∨ (k1629.toInt < k0_7.toInt ∧ v1664.toInt = (aZ H 1 k1629.toInt.toNat).toInt) := by rw [e1658, e1656, ← m1660]; exact p1665
            refine g_istore_n (l' := [(0, .ref 0), (1, .int v1664)]) rfl rfl ?_
            refine g_iload_n rfl ?_
            refine g_iconst (by decide) (fun v1666 kv1666 => ?_)
            refine g_if2_ne (fun c1667 => ?_) (fun c1667 => ?_)
            · refine g_iload_n rfl ?_
              refine g_invti rfl rfl rfl (s_157 v1664 H1653 hIH1653 hJH1653) (fun v1670 H1668 r1669 => ?_)
              obtain ⟨rfl, bv1670, p1671, p1672⟩ := r1669
              refine g_if_eq (fun c1673 => ?_) (fun c1673 => ?_)
              · refine g_iload_n rfl ?_
                refine g_invti rfl rfl rfl (s_158 v1664 H1653 hIH1653 hJH1653) (fun v1676 H1674 r1675 => ?_)
                obtain ⟨rfl, bv1676, p1677, p1678⟩ := r1675
                refine g_if_eq (fun c1679 => ?_) (fun c1679 => ?_)
                · refine g_aload_n rfl ?_
                  refine g_iload_n rfl ?_
                  refine g_bipush (by decide) (fun v1680 kv1680 => ?_)
                  refine g_if2_ne (fun c1681 => ?_) (fun c1681 => ?_)
                  · refine g_iconst (by decide) (fun v1682 kv1682 => ?_)
                    refine g_nop ?_
                    refine g_pfi hIH1653 sm_0 rfl (by omega) (fun H1683 eH1683 hIH1683 => ?_)
                    have hJH1683 : JN H1683 := JN_sF eH1683 hJH1653
                    have e1684 : k0_2 = fZ H1683 0 2 := by rw [eH1683, fZ_sF_ne (by decide)]; exact e1654
                    have e1685 : k0_13 = fZ H1683 0 13 := by rw [eH1683, fZ_sF_ne (by decide)]; exact e1655
                    have e1686 : k0_7 = fZ H1683 0 7 := by rw [eH1683, fZ_sF_ne (by decide)]; exact e1656
                    have e1687 : k0_19 = fZ H1683 0 19 := by rw [eH1683, fZ_sF_ne (by decide)]; exact e1657
                    have e1688 : k1629 = fZ H1683 0 8 := by rw [eH1683, fZ_sF_ne (by decide)]; exact e1658
                    have e1689 : k1629 = fZ H1683 0 9 := by rw [eH1683, fZ_sF_ne (by decide)]; exact e1659
                    have e1690 : v1682 = fZ H1683 0 10 := by rw [eH1683, fZ_sF_eq hIH1653 sm_0 rfl]
                    have m1691 : ∀ a i, aZ H1683 a i = aZ H a i := fun a i => (by rw [eH1683, aZ_sF] : aZ H1683 a i = aZ H1653 a i).trans (m1660 a i)
                    have ie1686 : k0_7.toInt = (fZ H1683 0 7).toInt := by rw [← e1686]
                    have ie1688 : k1629.toInt = (fZ H1683 0 8).toInt := by rw [← e1688]
                    have ie1689 : k1629.toInt = (fZ H1683 0 9).toInt := by rw [← e1689]
                    have ie1690 : v1682.toInt = (fZ H1683 0 10).toInt := by rw [← e1690]
                    refine g_aload_n rfl ?_
                    refine g_dup rfl ?_
                    refine g_gfk hIH1683 sm_0 rfl e1688 ?_
                    refine g_iconst (by decide) (fun v1692 kv1692 => ?_)
                    refine g_iadd (by omega) (fun v1693 ev1693 => ?_)
                    refine g_pfi hIH1683 sm_0 rfl (by omega) (fun H1694 eH1694 hIH1694 => ?_)
                    have hJH1694 : JN H1694 := JN_sF eH1694 hJH1683
                    have e1695 : k0_2 = fZ H1694 0 2 := by rw [eH1694, fZ_sF_ne (by decide)]; exact e1684
                    have e1696 : k0_13 = fZ H1694 0 13 := by rw [eH1694, fZ_sF_ne (by decide)]; exact e1685
                    have e1697 : k0_7 = fZ H1694 0 7 := by rw [eH1694, fZ_sF_ne (by decide)]; exact e1686
                    have e1698 : k0_19 = fZ H1694 0 19 := by rw [eH1694, fZ_sF_ne (by decide)]; exact e1687
                    have e1699 : k1629 = fZ H1694 0 9 := by rw [eH1694, fZ_sF_ne (by decide)]; exact e1689
                    have e1700 : v1682 = fZ H1694 0 10 := by rw [eH1694, fZ_sF_ne (by decide)]; exact e1690
                    have e1701 : v1693 = fZ H1694 0 8 := by rw [eH1694, fZ_sF_eq hIH1683 sm_0 rfl]
                    have m1702 : ∀ a i, aZ H1694 a i = aZ H a i := fun a i => (by rw [eH1694, aZ_sF] : aZ H1694 a i = aZ H1683 a i).trans (m1691 a i)
                    have ie1697 : k0_7.toInt = (fZ H1694 0 7).toInt := by rw [← e1697]
                    have ie1699 : k1629.toInt = (fZ H1694 0 9).toInt := by rw [← e1699]
                    have ie1700 : v1682.toInt = (fZ H1694 0 10).toInt := by rw [← e1700]
                    have ie1701 : v1693.toInt = (fZ H1694 0 8).toInt := by rw [← e1701]
                    refine g_nop ?_
                    exact g_ret ⟨rfl, hIH1694, hJH1694, (e1695.symm.trans ek0_2), (e1696.symm.trans ek0_13), (e1697.symm.trans ek0_7), (e1698.symm.trans ek0_19), m1702, (by omega), (by omega)⟩
                  · refine g_iconst (by decide) (fun v1703 kv1703 => ?_)
                    refine g_goto ?_
                    refine g_pfi hIH1653 sm_0 rfl (by omega) (fun H1704 eH1704 hIH1704 => ?_)
                    have hJH1704 : JN H1704 := JN_sF eH1704 hJH1653
                    have e1705 : k0_2 = fZ H1704 0 2 := by rw [eH1704, fZ_sF_ne (by decide)]; exact e1654
                    have e1706 : k0_13 = fZ H1704 0 13 := by rw [eH1704, fZ_sF_ne (by decide)]; exact e1655
                    have e1707 : k0_7 = fZ H1704 0 7 := by rw [eH1704, fZ_sF_ne (by decide)]; exact e1656
                    have e1708 : k0_19 = fZ H1704 0 19 := by rw [eH1704, fZ_sF_ne (by decide)]; exact e1657
                    have e1709 : k1629 = fZ H1704 0 8 := by rw [eH1704, fZ_sF_ne (by decide)]; exact e1658
                    have e1710 : k1629 = fZ H1704 0 9 := by rw [eH1704, fZ_sF_ne (by decide)]; exact e1659
                    have e1711 : v1703 = fZ H1704 0 10 := by rw [eH1704, fZ_sF_eq hIH1653 sm_0 rfl]
                    have m1712 : ∀ a i, aZ H1704 a i = aZ H a i := fun a i => (by rw [eH1704, aZ_sF] : aZ H1704 a i = aZ H1653 a i).trans (m1660 a i)
                    have ie1707 : k0_7.toInt = (fZ H1704 0 7).toInt := by rw [← e1707]
                    have ie1709 : k1629.toInt = (fZ H1704 0 8).toInt := by rw [← e1709]
                    have ie1710 : k1629.toInt = (fZ H1704 0 9).toInt := by rw [← e1710]
                    have ie1711 : v1703.toInt = (fZ H1704 0 10).toInt := by rw [← e1711]
                    refine g_aload_n rfl ?_
                    refine g_dup rfl ?_
                    refine g_gfk hIH1704 sm_0 rfl e1709 ?_
                    refine g_iconst (by decide) (fun v1713 kv1713 => ?_)
                    refine g_iadd (by omega) (fun v1714 ev1714 => ?_)
                    refine g_pfi hIH1704 sm_0 rfl (by omega) (fun H1715 eH1715 hIH1715 => ?_)
                    have hJH1715 : JN H1715 := JN_sF eH1715 hJH1704
                    have e1716 : k0_2 = fZ H1715 0 2 := by rw [eH1715, fZ_sF_ne (by decide)]; exact e1705
                    have e1717 : k0_13 = fZ H1715 0 13 := by rw [eH1715, fZ_sF_ne (by decide)]; exact e1706
                    have e1718 : k0_7 = fZ H1715 0 7 := by rw [eH1715, fZ_sF_ne (by decide)]; exact e1707
                    have e1719 : k0_19 = fZ H1715 0 19 := by rw [eH1715, fZ_sF_ne (by decide)]; exact e1708
                    have e1720 : k1629 = fZ H1715 0 9 := by rw [eH1715, fZ_sF_ne (by decide)]; exact e1710
                    have e1721 : v1703 = fZ H1715 0 10 := by rw [eH1715, fZ_sF_ne (by decide)]; exact e1711
                    have e1722 : v1714 = fZ H1715 0 8 := by rw [eH1715, fZ_sF_eq hIH1704 sm_0 rfl]
                    have m1723 : ∀ a i, aZ H1715 a i = aZ H a i := fun a i => (by rw [eH1715, aZ_sF] : aZ H1715 a i = aZ H1704 a i).trans (m1712 a i)
                    have ie1718 : k0_7.toInt = (fZ H1715 0 7).toInt := by rw [← e1718]
                    have ie1720 : k1629.toInt = (fZ H1715 0 9).toInt := by rw [← e1720]
                    have ie1721 : v1703.toInt = (fZ H1715 0 10).toInt := by rw [← e1721]
                    have ie1722 : v1714.toInt = (fZ H1715 0 8).toInt := by rw [← e1722]
                    refine g_nop ?_
                    exact g_ret ⟨rfl, hIH1715, hJH1715, (e1716.symm.trans ek0_2), (e1717.symm.trans ek0_13), (e1718.symm.trans ek0_7), (e1719.symm.trans ek0_19), m1723, (by omega), (by omega)⟩
                · refine g_aload_n rfl ?_
                  refine g_iconst (by decide) (fun v1724 kv1724 => ?_)
                  refine g_pfi hIH1653 sm_0 rfl (by omega) (fun H1725 eH1725 hIH1725 => ?_)
                  have hJH1725 : JN H1725 := JN_sF eH1725 hJH1653
                  have e1726 : k0_2 = fZ H1725 0 2 := by rw [eH1725, fZ_sF_ne (by decide)]; exact e1654
                  have e1727 : k0_13 = fZ H1725 0 13 := by rw [eH1725, fZ_sF_ne (by decide)]; exact e1655
                  have e1728 : k0_7 = fZ H1725 0 7 := by rw [eH1725, fZ_sF_ne (by decide)]; exact e1656
                  have e1729 : k0_19 = fZ H1725 0 19 := by rw [eH1725, fZ_sF_ne (by decide)]; exact e1657
                  have e1730 : k1629 = fZ H1725 0 8 := by rw [eH1725, fZ_sF_ne (by decide)]; exact e1658
                  have e1731 : k1629 = fZ H1725 0 9 := by rw [eH1725, fZ_sF_ne (by decide)]; exact e1659
                  have e1732 : v1724 = fZ H1725 0 10 := by rw [eH1725, fZ_sF_eq hIH1653 sm_0 rfl]
                  have m1733 : ∀ a i, aZ H1725 a i = aZ H a i := fun a i => (by rw [eH1725, aZ_sF] : aZ H1725 a i = aZ H1653 a i).trans (m1660 a i)
                  have ie1728 : k0_7.toInt = (fZ H1725 0 7).toInt := by rw [← e1728]
                  have ie1730 : k1629.toInt = (fZ H1725 0 8).toInt := by rw [← e1730]
                  have ie1731 : k1629.toInt = (fZ H1725 0 9).toInt := by rw [← e1731]
                  have ie1732 : v1724.toInt = (fZ H1725 0 10).toInt := by rw [← e1732]
                  refine g_aload_n rfl ?_
                  refine g_iconst (by decide) (fun v1734 kv1734 => ?_)
                  refine g_pfi hIH1725 sm_0 rfl (gz_any _) (fun H1735 eH1735 hIH1735 => ?_)
                  have hJH1735 : JN H1735 := JN_sF eH1735 hJH1725
                  have e1736 : k0_2 = fZ H1735 0 2 := by rw [eH1735, fZ_sF_ne (by decide)]; exact e1726
                  have e1737 : k0_13 = fZ H1735 0 13 := by rw [eH1735, fZ_sF_ne (by decide)]; exact e1727
                  have e1738 : k0_7 = fZ H1735 0 7 := by rw [eH1735, fZ_sF_ne (by decide)]; exact e1728
                  have e1739 : k0_19 = fZ H1735 0 19 := by rw [eH1735, fZ_sF_ne (by decide)]; exact e1729
                  have e1740 : k1629 = fZ H1735 0 8 := by rw [eH1735, fZ_sF_ne (by decide)]; exact e1730
                  have e1741 : k1629 = fZ H1735 0 9 := by rw [eH1735, fZ_sF_ne (by decide)]; exact e1731
                  have e1742 : v1724 = fZ H1735 0 10 := by rw [eH1735, fZ_sF_ne (by decide)]; exact e1732
                  have m1743 : ∀ a i, aZ H1735 a i = aZ H a i := fun a i => (by rw [eH1735, aZ_sF] : aZ H1735 a i = aZ H1725 a i).trans (m1733 a i)
                  have ie1738 : k0_7.toInt = (fZ H1735 0 7).toInt := by rw [← e1738]
                  have ie1740 : k1629.toInt = (fZ H1735 0 8).toInt := by rw [← e1740]
                  have ie1741 : k1629.toInt = (fZ H1735 0 9).toInt := by rw [← e1741]
                  have ie1742 : v1724.toInt = (fZ H1735 0 10).toInt := by rw [← e1742]
                  refine g_nop ?_
                  have L1752 : ∀ (N : Nat) (H1744 : mzH), gI SM H1744 → JN H1744 → k0_2 = fZ H1744 0 2 → k0_13 = fZ H1744 0 13 → k0_7 = fZ H1744 0 7 → k0_19 = fZ H1744 0 19 → k1629 = fZ H1744 0 9 → v1724 = fZ H1744 0 10 → (∀ a i, aZ H1744 a i = aZ H a i) → ((fZ H 0 8).toInt < (fZ H1744 0 8).toInt ∨ ((fZ H1744 0 8).toInt < (fZ H1744 0 7).toInt ∧ 48 ≤ (aZ H 1 (fZ H1744 0 8).toInt.toNat).toInt ∧ (aZ H 1 (fZ H1744 0 8).toInt.toNat).toInt ≤ 57)) → (fZ H 0 8).toInt ≤ (fZ H1744 0 8).toInt → (900 - (fZ H1744 0 8).toInt).toNat < N → gG 2 zB_159 (mzBlk zB_159 10) [(0, .ref 0), (1, .int v1664)] [] H1744 0 0 (gRv (fun H' => gI SM H' ∧ JN H' ∧ fZ H' 0 2 = fZ H 0 2 ∧ fZ H' 0 13 = fZ H 0 13 ∧ fZ H' 0 7 = fZ H 0 7 ∧ fZ H' 0 19 = fZ H 0 19 ∧ (∀ a i, aZ H' a i = aZ H a i) ∧ (fZ H 0 8).toInt ≤ (fZ H' 0 8).toInt ∧ ((fZ H' 0 10).toInt = 3 ∨ (fZ H 0 8).toInt < (fZ H' 0 8).toInt))) := by
                    intro N
                    induction N with
                    | zero => intro H1744 hIH1744 hJH1744 e1745 e1746 e1747 e1748 e1749 e1750 m1751 q1 q2 hmL1752; exact absurd hmL1752 (Nat.not_lt_zero _)
                    | succ N ihL1752 =>
                      intro H1744 hIH1744 hJH1744 e1745 e1746 e1747 e1748 e1749 e1750 m1751 q1 q2 hmL1752
                      obtain ⟨k1753, ek1753⟩ : ∃ z, z = fZ H1744 0 8 := ⟨_, rfl⟩
                      have ik1753 : k1753.toInt = (fZ H1744 0 8).toInt := by rw [← ek1753]
                      have bk1753 : 0 ≤ k1753.toInt ∧ k1753.toInt ≤ 900 := by rw [ek1753]; exact fZ_of hIH1744 sm_0 rfl
                      rw [← ek1753, ← e1747] at q1
                      refine g_aload_n rfl ?_
                      refine g_invvi hIH1744 sm_0 rfl rfl rfl rfl (s_156 H1744 hIH1744 hJH1744) (fun v1756 H1754 r1755 => ?_)
                      obtain ⟨rfl, bv1756, p1757⟩ := r1755
                      have nv1756 : (v1756.toInt = -1 ∧ k0_7.toInt ≤ k1753.toInt) ∨ (k1753.toInt < k0_7.toInt ∧ v1756.toInt = (aZ H 1 k1753.toInt.toNat).toInt) := by rw [ek1753, e1747, ← m1751]; exact p1757
                      refine g_invti rfl rfl rfl (s_158 v1756 H1744 hIH1744 hJH1744) (fun v1760 H1758 r1759 => ?_)
                      obtain ⟨rfl, bv1760, p1761, p1762⟩ := r1759
                      refine g_if_eq (fun c1763 => ?_) (fun c1763 => ?_)
                      · exact g_ret ⟨rfl, hIH1744, hJH1744, (e1745.symm.trans ek0_2), (e1746.symm.trans ek0_13), (e1747.symm.trans ek0_7), (e1748.symm.trans ek0_19), m1751, (by omega), (by omega)⟩
                      · refine g_aload_n rfl ?_
                        refine g_aload_n rfl ?_
                        refine g_gfi hIH1744 sm_0 rfl (fun v1764 ev1764 lv1764 uv1764 => ?_)
                        refine g_sipush (by decide) (fun v1765 kv1765 => ?_)
                        refine g_if2_le (fun c1766 => ?_) (fun c1766 => ?_)
                        · refine g_bipush (by decide) (fun v1767 kv1767 => ?_)
                          refine g_aload_n rfl ?_
                          refine g_gfi hIH1744 sm_0 rfl (fun v1768 ev1768 lv1768 uv1768 => ?_)
                          refine g_imul' (fun v1769 ov1769 => ?_)
                          refine g_aload_n rfl ?_
                          refine g_invvi hIH1744 sm_0 rfl rfl rfl rfl (s_156 H1744 hIH1744 hJH1744) (fun v1772 H1770 r1771 => ?_)
                          obtain ⟨rfl, bv1772, p1773⟩ := r1771
                          have nv1772 : (v1772.toInt = -1 ∧ k0_7.toInt ≤ k1753.toInt) ∨ (k1753.toInt < k0_7.toInt ∧ v1772.toInt = (aZ H 1 k1753.toInt.toNat).toInt) := by rw [ek1753, e1747, ← m1751]; exact p1773
                          refine g_iadd' (fun v1774 ov1774 => ?_)
                          refine g_bipush (by decide) (fun v1775 kv1775 => ?_)
                          refine g_isub' (fun v1776 ov1776 => ?_)
                          refine g_nop ?_
                          refine g_pfi hIH1744 sm_0 rfl (gz_any _) (fun H1777 eH1777 hIH1777 => ?_)
                          have hJH1777 : JN H1777 := JN_sF eH1777 hJH1744
                          have e1778 : k0_2 = fZ H1777 0 2 := by rw [eH1777, fZ_sF_ne (by decide)]; exact e1745
                          have e1779 : k0_13 = fZ H1777 0 13 := by rw [eH1777, fZ_sF_ne (by decide)]; exact e1746
                          have e1780 : k0_7 = fZ H1777 0 7 := by rw [eH1777, fZ_sF_ne (by decide)]; exact e1747
                          have e1781 : k0_19 = fZ H1777 0 19 := by rw [eH1777, fZ_sF_ne (by decide)]; exact e1748
                          have e1782 : k1629 = fZ H1777 0 9 := by rw [eH1777, fZ_sF_ne (by decide)]; exact e1749
                          have e1783 : v1724 = fZ H1777 0 10 := by rw [eH1777, fZ_sF_ne (by decide)]; exact e1750
                          have e1784 : k1753 = fZ H1777 0 8 := by rw [eH1777, fZ_sF_ne (by decide)]; exact ek1753
                          have m1785 : ∀ a i, aZ H1777 a i = aZ H a i := fun a i => (by rw [eH1777, aZ_sF] : aZ H1777 a i = aZ H1744 a i).trans (m1751 a i)
                          have ie1780 : k0_7.toInt = (fZ H1777 0 7).toInt := by rw [← e1780]
                          have ie1782 : k1629.toInt = (fZ H1777 0 9).toInt := by rw [← e1782]
                          have ie1783 : v1724.toInt = (fZ H1777 0 10).toInt := by rw [← e1783]
                          have ie1784 : k1753.toInt = (fZ H1777 0 8).toInt := by rw [← e1784]
                          refine g_aload_n rfl ?_
                          refine g_dup rfl ?_
                          refine g_gfk hIH1777 sm_0 rfl e1784 ?_
                          refine g_iconst (by decide) (fun v1786 kv1786 => ?_)
                          refine g_iadd (by omega) (fun v1787 ev1787 => ?_)
                          refine g_pfi hIH1777 sm_0 rfl (by omega) (fun H1788 eH1788 hIH1788 => ?_)
                          have hJH1788 : JN H1788 := JN_sF eH1788 hJH1777
                          have e1789 : k0_2 = fZ H1788 0 2 := by rw [eH1788, fZ_sF_ne (by decide)]; exact e1778
                          have e1790 : k0_13 = fZ H1788 0 13 := by rw [eH1788, fZ_sF_ne (by decide)]; exact e1779
                          have e1791 : k0_7 = fZ H1788 0 7 := by rw [eH1788, fZ_sF_ne (by decide)]; exact e1780
                          have e1792 : k0_19 = fZ H1788 0 19 := by rw [eH1788, fZ_sF_ne (by decide)]; exact e1781
                          have e1793 : k1629 = fZ H1788 0 9 := by rw [eH1788, fZ_sF_ne (by decide)]; exact e1782
                          have e1794 : v1724 = fZ H1788 0 10 := by rw [eH1788, fZ_sF_ne (by decide)]; exact e1783
                          have e1795 : v1787 = fZ H1788 0 8 := by rw [eH1788, fZ_sF_eq hIH1777 sm_0 rfl]
                          have m1796 : ∀ a i, aZ H1788 a i = aZ H a i := fun a i => (by rw [eH1788, aZ_sF] : aZ H1788 a i = aZ H1777 a i).trans (m1785 a i)
                          have ie1791 : k0_7.toInt = (fZ H1788 0 7).toInt := by rw [← e1791]
                          have ie1793 : k1629.toInt = (fZ H1788 0 9).toInt := by rw [← e1793]
                          have ie1794 : v1724.toInt = (fZ H1788 0 10).toInt := by rw [← e1794]
                          have ie1795 : v1787.toInt = (fZ H1788 0 8).toInt := by rw [← e1795]
                          refine g_goto ?_
                          exact ihL1752 H1788 hIH1788 hJH1788 e1789 e1790 e1791 e1792 e1793 e1794 m1796 (by rw [← e1795, ← e1791]; omega) (by omega) (by omega)
                        · refine g_aload_n rfl ?_
                          refine g_gfi hIH1744 sm_0 rfl (fun v1797 ev1797 lv1797 uv1797 => ?_)
                          refine g_goto ?_
                          refine g_pfi hIH1744 sm_0 rfl (gz_any _) (fun H1798 eH1798 hIH1798 => ?_)
                          have hJH1798 : JN H1798 := JN_sF eH1798 hJH1744
                          have e1799 : k0_2 = fZ H1798 0 2 := by rw [eH1798, fZ_sF_ne (by decide)]; exact e1745
                          have e1800 : k0_13 = fZ H1798 0 13 := by rw [eH1798, fZ_sF_ne (by decide)]; exact e1746
                          have e1801 : k0_7 = fZ H1798 0 7 := by rw [eH1798, fZ_sF_ne (by decide)]; exact e1747
                          have e1802 : k0_19 = fZ H1798 0 19 := by rw [eH1798, fZ_sF_ne (by decide)]; exact e1748
                          have e1803 : k1629 = fZ H1798 0 9 := by rw [eH1798, fZ_sF_ne (by decide)]; exact e1749
                          have e1804 : v1724 = fZ H1798 0 10 := by rw [eH1798, fZ_sF_ne (by decide)]; exact e1750
                          have e1805 : k1753 = fZ H1798 0 8 := by rw [eH1798, fZ_sF_ne (by decide)]; exact ek1753
                          have m1806 : ∀ a i, aZ H1798 a i = aZ H a i := fun a i => (by rw [eH1798, aZ_sF] : aZ H1798 a i = aZ H1744 a i).trans (m1751 a i)
                          have ie1801 : k0_7.toInt = (fZ H1798 0 7).toInt := by rw [← e1801]
                          have ie1803 : k1629.toInt = (fZ H1798 0 9).toInt := by rw [← e1803]
                          have ie1804 : v1724.toInt = (fZ H1798 0 10).toInt := by rw [← e1804]
                          have ie1805 : k1753.toInt = (fZ H1798 0 8).toInt := by rw [← e1805]
                          refine g_aload_n rfl ?_
                          refine g_dup rfl ?_
                          refine g_gfk hIH1798 sm_0 rfl e1805 ?_
                          refine g_iconst (by decide) (fun v1807 kv1807 => ?_)
                          refine g_iadd (by omega) (fun v1808 ev1808 => ?_)
                          refine g_pfi hIH1798 sm_0 rfl (by omega) (fun H1809 eH1809 hIH1809 => ?_)
                          have hJH1809 : JN H1809 := JN_sF eH1809 hJH1798
                          have e1810 : k0_2 = fZ H1809 0 2 := by rw [eH1809, fZ_sF_ne (by decide)]; exact e1799
                          have e1811 : k0_13 = fZ H1809 0 13 := by rw [eH1809, fZ_sF_ne (by decide)]; exact e1800
                          have e1812 : k0_7 = fZ H1809 0 7 := by rw [eH1809, fZ_sF_ne (by decide)]; exact e1801
                          have e1813 : k0_19 = fZ H1809 0 19 := by rw [eH1809, fZ_sF_ne (by decide)]; exact e1802
                          have e1814 : k1629 = fZ H1809 0 9 := by rw [eH1809, fZ_sF_ne (by decide)]; exact e1803
                          have e1815 : v1724 = fZ H1809 0 10 := by rw [eH1809, fZ_sF_ne (by decide)]; exact e1804
                          have e1816 : v1808 = fZ H1809 0 8 := by rw [eH1809, fZ_sF_eq hIH1798 sm_0 rfl]
                          have m1817 : ∀ a i, aZ H1809 a i = aZ H a i := fun a i => (by rw [eH1809, aZ_sF] : aZ H1809 a i = aZ H1798 a i).trans (m1806 a i)
                          have ie1812 : k0_7.toInt = (fZ H1809 0 7).toInt := by rw [← e1812]
                          have ie1814 : k1629.toInt = (fZ H1809 0 9).toInt := by rw [← e1814]
                          have ie1815 : v1724.toInt = (fZ H1809 0 10).toInt := by rw [← e1815]
                          have ie1816 : v1808.toInt = (fZ H1809 0 8).toInt := by rw [← e1816]
                          refine g_goto ?_
                          exact ihL1752 H1809 hIH1809 hJH1809 e1810 e1811 e1812 e1813 e1814 e1815 m1817 (by rw [← e1816, ← e1812]; omega) (by omega) (by omega)
                  exact L1752 _ H1735 hIH1735 hJH1735 e1736 e1737 e1738 e1739 e1741 e1742 m1743 (by rw [← e1740, ← e1738]; omega) (by omega) (Nat.lt_succ_self _)
              · refine g_aload_n rfl ?_
                refine g_iconst (by decide) (fun v1818 kv1818 => ?_)
                refine g_pfi hIH1653 sm_0 rfl (gz_any _) (fun H1819 eH1819 hIH1819 => ?_)
                have hJH1819 : JN H1819 := JN_sF eH1819 hJH1653
                have e1820 : k0_2 = fZ H1819 0 2 := by rw [eH1819, fZ_sF_ne (by decide)]; exact e1654
                have e1821 : k0_13 = fZ H1819 0 13 := by rw [eH1819, fZ_sF_ne (by decide)]; exact e1655
                have e1822 : k0_7 = fZ H1819 0 7 := by rw [eH1819, fZ_sF_ne (by decide)]; exact e1656
                have e1823 : k0_19 = fZ H1819 0 19 := by rw [eH1819, fZ_sF_ne (by decide)]; exact e1657
                have e1824 : k1629 = fZ H1819 0 8 := by rw [eH1819, fZ_sF_ne (by decide)]; exact e1658
                have e1825 : k1629 = fZ H1819 0 9 := by rw [eH1819, fZ_sF_ne (by decide)]; exact e1659
                have m1826 : ∀ a i, aZ H1819 a i = aZ H a i := fun a i => (by rw [eH1819, aZ_sF] : aZ H1819 a i = aZ H1653 a i).trans (m1660 a i)
                have jj1827_10 : (fZ H1819 0 10).toInt = (fZ H1653 0 10).toInt := by rw [eH1819, fZ_sF_ne (by decide)]
                have ie1822 : k0_7.toInt = (fZ H1819 0 7).toInt := by rw [← e1822]
                have ie1824 : k1629.toInt = (fZ H1819 0 8).toInt := by rw [← e1824]
                have ie1825 : k1629.toInt = (fZ H1819 0 9).toInt := by rw [← e1825]
                refine g_nop ?_
                have L1835 : ∀ (N : Nat) (H1828 : mzH), gI SM H1828 → JN H1828 → k0_2 = fZ H1828 0 2 → k0_13 = fZ H1828 0 13 → k0_7 = fZ H1828 0 7 → k0_19 = fZ H1828 0 19 → k1629 = fZ H1828 0 9 → (∀ a i, aZ H1828 a i = aZ H a i) → ((fZ H 0 8).toInt < (fZ H1828 0 8).toInt ∨ ((fZ H1828 0 8).toInt < (fZ H1828 0 7).toInt ∧ 97 ≤ (aZ H 1 (fZ H1828 0 8).toInt.toNat).toInt ∧ (aZ H 1 (fZ H1828 0 8).toInt.toNat).toInt ≤ 122)) → (fZ H 0 8).toInt ≤ (fZ H1828 0 8).toInt → (900 - (fZ H1828 0 8).toInt).toNat < N → gG 2 zB_159 (mzBlk zB_159 4) [(0, .ref 0), (1, .int v1664)] [] H1828 0 0 (gRv (fun H' => gI SM H' ∧ JN H' ∧ fZ H' 0 2 = fZ H 0 2 ∧ fZ H' 0 13 = fZ H 0 13 ∧ fZ H' 0 7 = fZ H 0 7 ∧ fZ H' 0 19 = fZ H 0 19 ∧ (∀ a i, aZ H' a i = aZ H a i) ∧ (fZ H 0 8).toInt ≤ (fZ H' 0 8).toInt ∧ ((fZ H' 0 10).toInt = 3 ∨ (fZ H 0 8).toInt < (fZ H' 0 8).toInt))) := by
                  intro N
                  induction N with
                  | zero => intro H1828 hIH1828 hJH1828 e1829 e1830 e1831 e1832 e1833 m1834 q1 q2 hmL1835; exact absurd hmL1835 (Nat.not_lt_zero _)
                  | succ N ihL1835 =>
                    intro H1828 hIH1828 hJH1828 e1829 e1830 e1831 e1832 e1833 m1834 q1 q2 hmL1835
                    obtain ⟨k1836, ek1836⟩ : ∃ z, z = fZ H1828 0 8 := ⟨_, rfl⟩
                    have ik1836 : k1836.toInt = (fZ H1828 0 8).toInt := by rw [← ek1836]
                    have bk1836 : 0 ≤ k1836.toInt ∧ k1836.toInt ≤ 900 := by rw [ek1836]; exact fZ_of hIH1828 sm_0 rfl
                    rw [← ek1836, ← e1831] at q1
                    refine g_aload_n rfl ?_
                    refine g_invvi hIH1828 sm_0 rfl rfl rfl rfl (s_156 H1828 hIH1828 hJH1828) (fun v1839 H1837 r1838 => ?_)
                    obtain ⟨rfl, bv1839, p1840⟩ := r1838
                    have nv1839 : (v1839.toInt = -1 ∧ k0_7.toInt ≤ k1836.toInt) ∨ (k1836.toInt < k0_7.toInt ∧ v1839.toInt = (aZ H 1 k1836.toInt.toNat).toInt) := by rw [ek1836, e1831, ← m1834]; exact p1840
                    refine g_invti rfl rfl rfl (s_157 v1839 H1828 hIH1828 hJH1828) (fun v1843 H1841 r1842 => ?_)
                    obtain ⟨rfl, bv1843, p1844, p1845⟩ := r1842
                    refine g_if_eq (fun c1846 => ?_) (fun c1846 => ?_)
                    · refine g_aload_n rfl ?_
                      refine g_aload_n rfl ?_
                      refine g_gfk hIH1828 sm_0 rfl ek1836 ?_
                      refine g_aload_n rfl ?_
                      refine g_gfk hIH1828 sm_0 rfl e1833 ?_
                      refine g_isub (by omega) (fun v1847 ev1847 => ?_)
                      refine g_bipush (by decide) (fun v1848 kv1848 => ?_)
                      refine g_if2_gt (fun c1849 => ?_) (fun c1849 => ?_)
                      · refine g_iconst (by decide) (fun v1850 kv1850 => ?_)
                        refine g_nop ?_
                        refine g_pfi hIH1828 sm_0 rfl (by omega) (fun H1851 eH1851 hIH1851 => ?_)
                        have hJH1851 : JN H1851 := JN_sF eH1851 hJH1828
                        have e1852 : k0_2 = fZ H1851 0 2 := by rw [eH1851, fZ_sF_ne (by decide)]; exact e1829
                        have e1853 : k0_13 = fZ H1851 0 13 := by rw [eH1851, fZ_sF_ne (by decide)]; exact e1830
                        have e1854 : k0_7 = fZ H1851 0 7 := by rw [eH1851, fZ_sF_ne (by decide)]; exact e1831
                        have e1855 : k0_19 = fZ H1851 0 19 := by rw [eH1851, fZ_sF_ne (by decide)]; exact e1832
                        have e1856 : k1629 = fZ H1851 0 9 := by rw [eH1851, fZ_sF_ne (by decide)]; exact e1833
                        have e1857 : k1836 = fZ H1851 0 8 := by rw [eH1851, fZ_sF_ne (by decide)]; exact ek1836
                        have e1858 : v1850 = fZ H1851 0 10 := by rw [eH1851, fZ_sF_eq hIH1828 sm_0 rfl]
                        have m1859 : ∀ a i, aZ H1851 a i = aZ H a i := fun a i => (by rw [eH1851, aZ_sF] : aZ H1851 a i = aZ H1828 a i).trans (m1834 a i)
                        have ie1854 : k0_7.toInt = (fZ H1851 0 7).toInt := by rw [← e1854]
                        have ie1856 : k1629.toInt = (fZ H1851 0 9).toInt := by rw [← e1856]
                        have ie1857 : k1836.toInt = (fZ H1851 0 8).toInt := by rw [← e1857]
                        have ie1858 : v1850.toInt = (fZ H1851 0 10).toInt := by rw [← e1858]
                        refine g_aload_n rfl ?_
                        refine g_aload_n rfl ?_
                        refine g_invvi hIH1851 sm_0 rfl rfl rfl rfl (s_160 H1851 hIH1851 hJH1851) (fun v1862 H1860 r1861 => ?_)
                        obtain rfl := r1861
                        refine g_pfi hIH1851 sm_0 rfl (gz_any _) (fun H1863 eH1863 hIH1863 => ?_)
                        have hJH1863 : JN H1863 := JN_sF eH1863 hJH1851
                        have e1864 : k0_2 = fZ H1863 0 2 := by rw [eH1863, fZ_sF_ne (by decide)]; exact e1852
                        have e1865 : k0_13 = fZ H1863 0 13 := by rw [eH1863, fZ_sF_ne (by decide)]; exact e1853
                        have e1866 : k0_7 = fZ H1863 0 7 := by rw [eH1863, fZ_sF_ne (by decide)]; exact e1854
                        have e1867 : k0_19 = fZ H1863 0 19 := by rw [eH1863, fZ_sF_ne (by decide)]; exact e1855
                        have e1868 : k1629 = fZ H1863 0 9 := by rw [eH1863, fZ_sF_ne (by decide)]; exact e1856
                        have e1869 : k1836 = fZ H1863 0 8 := by rw [eH1863, fZ_sF_ne (by decide)]; exact e1857
                        have e1870 : v1850 = fZ H1863 0 10 := by rw [eH1863, fZ_sF_ne (by decide)]; exact e1858
                        have m1871 : ∀ a i, aZ H1863 a i = aZ H a i := fun a i => (by rw [eH1863, aZ_sF] : aZ H1863 a i = aZ H1851 a i).trans (m1859 a i)
                        have ie1866 : k0_7.toInt = (fZ H1863 0 7).toInt := by rw [← e1866]
                        have ie1868 : k1629.toInt = (fZ H1863 0 9).toInt := by rw [← e1868]
                        have ie1869 : k1836.toInt = (fZ H1863 0 8).toInt := by rw [← e1869]
                        have ie1870 : v1850.toInt = (fZ H1863 0 10).toInt := by rw [← e1870]
                        refine g_goto ?_
                        exact g_ret ⟨rfl, hIH1863, hJH1863, (e1864.symm.trans ek0_2), (e1865.symm.trans ek0_13), (e1866.symm.trans ek0_7), (e1867.symm.trans ek0_19), m1871, (by omega), (by omega)⟩
                      · refine g_iconst (by decide) (fun v1872 kv1872 => ?_)
                        refine g_goto ?_
                        refine g_pfi hIH1828 sm_0 rfl (by omega) (fun H1873 eH1873 hIH1873 => ?_)
                        have hJH1873 : JN H1873 := JN_sF eH1873 hJH1828
                        have e1874 : k0_2 = fZ H1873 0 2 := by rw [eH1873, fZ_sF_ne (by decide)]; exact e1829
                        have e1875 : k0_13 = fZ H1873 0 13 := by rw [eH1873, fZ_sF_ne (by decide)]; exact e1830
                        have e1876 : k0_7 = fZ H1873 0 7 := by rw [eH1873, fZ_sF_ne (by decide)]; exact e1831
                        have e1877 : k0_19 = fZ H1873 0 19 := by rw [eH1873, fZ_sF_ne (by decide)]; exact e1832
                        have e1878 : k1629 = fZ H1873 0 9 := by rw [eH1873, fZ_sF_ne (by decide)]; exact e1833
                        have e1879 : k1836 = fZ H1873 0 8 := by rw [eH1873, fZ_sF_ne (by decide)]; exact ek1836
                        have e1880 : v1872 = fZ H1873 0 10 := by rw [eH1873, fZ_sF_eq hIH1828 sm_0 rfl]
                        have m1881 : ∀ a i, aZ H1873 a i = aZ H a i := fun a i => (by rw [eH1873, aZ_sF] : aZ H1873 a i = aZ H1828 a i).trans (m1834 a i)
                        have ie1876 : k0_7.toInt = (fZ H1873 0 7).toInt := by rw [← e1876]
                        have ie1878 : k1629.toInt = (fZ H1873 0 9).toInt := by rw [← e1878]
                        have ie1879 : k1836.toInt = (fZ H1873 0 8).toInt := by rw [← e1879]
                        have ie1880 : v1872.toInt = (fZ H1873 0 10).toInt := by rw [← e1880]
                        refine g_aload_n rfl ?_
                        refine g_aload_n rfl ?_
                        refine g_invvi hIH1873 sm_0 rfl rfl rfl rfl (s_160 H1873 hIH1873 hJH1873) (fun v1884 H1882 r1883 => ?_)
                        obtain rfl := r1883
                        refine g_pfi hIH1873 sm_0 rfl (gz_any _) (fun H1885 eH1885 hIH1885 => ?_)
                        have hJH1885 : JN H1885 := JN_sF eH1885 hJH1873
                        have e1886 : k0_2 = fZ H1885 0 2 := by rw [eH1885, fZ_sF_ne (by decide)]; exact e1874
                        have e1887 : k0_13 = fZ H1885 0 13 := by rw [eH1885, fZ_sF_ne (by decide)]; exact e1875
                        have e1888 : k0_7 = fZ H1885 0 7 := by rw [eH1885, fZ_sF_ne (by decide)]; exact e1876
                        have e1889 : k0_19 = fZ H1885 0 19 := by rw [eH1885, fZ_sF_ne (by decide)]; exact e1877
                        have e1890 : k1629 = fZ H1885 0 9 := by rw [eH1885, fZ_sF_ne (by decide)]; exact e1878
                        have e1891 : k1836 = fZ H1885 0 8 := by rw [eH1885, fZ_sF_ne (by decide)]; exact e1879
                        have e1892 : v1872 = fZ H1885 0 10 := by rw [eH1885, fZ_sF_ne (by decide)]; exact e1880
                        have m1893 : ∀ a i, aZ H1885 a i = aZ H a i := fun a i => (by rw [eH1885, aZ_sF] : aZ H1885 a i = aZ H1873 a i).trans (m1881 a i)
                        have ie1888 : k0_7.toInt = (fZ H1885 0 7).toInt := by rw [← e1888]
                        have ie1890 : k1629.toInt = (fZ H1885 0 9).toInt := by rw [← e1890]
                        have ie1891 : k1836.toInt = (fZ H1885 0 8).toInt := by rw [← e1891]
                        have ie1892 : v1872.toInt = (fZ H1885 0 10).toInt := by rw [← e1892]
                        refine g_goto ?_
                        exact g_ret ⟨rfl, hIH1885, hJH1885, (e1886.symm.trans ek0_2), (e1887.symm.trans ek0_13), (e1888.symm.trans ek0_7), (e1889.symm.trans ek0_19), m1893, (by omega), (by omega)⟩
                    · refine g_aload_n rfl ?_
                      refine g_gfk hIH1828 sm_0 rfl ek1836 ?_
                      refine g_aload_n rfl ?_
                      refine g_gfk hIH1828 sm_0 rfl e1833 ?_
                      refine g_isub (by omega) (fun v1894 ev1894 => ?_)
                      refine g_bipush (by decide) (fun v1895 kv1895 => ?_)
                      refine g_if2_ge (fun c1896 => ?_) (fun c1896 => ?_)
                      · refine g_aload_n rfl ?_
                        refine g_dup rfl ?_
                        refine g_gfk hIH1828 sm_0 rfl ek1836 ?_
                        refine g_iconst (by decide) (fun v1897 kv1897 => ?_)
                        refine g_iadd (by omega) (fun v1898 ev1898 => ?_)
                        refine g_pfi hIH1828 sm_0 rfl (by omega) (fun H1899 eH1899 hIH1899 => ?_)
                        have hJH1899 : JN H1899 := JN_sF eH1899 hJH1828
                        have e1900 : k0_2 = fZ H1899 0 2 := by rw [eH1899, fZ_sF_ne (by decide)]; exact e1829
                        have e1901 : k0_13 = fZ H1899 0 13 := by rw [eH1899, fZ_sF_ne (by decide)]; exact e1830
                        have e1902 : k0_7 = fZ H1899 0 7 := by rw [eH1899, fZ_sF_ne (by decide)]; exact e1831
                        have e1903 : k0_19 = fZ H1899 0 19 := by rw [eH1899, fZ_sF_ne (by decide)]; exact e1832
                        have e1904 : k1629 = fZ H1899 0 9 := by rw [eH1899, fZ_sF_ne (by decide)]; exact e1833
                        have e1905 : v1898 = fZ H1899 0 8 := by rw [eH1899, fZ_sF_eq hIH1828 sm_0 rfl]
                        have m1906 : ∀ a i, aZ H1899 a i = aZ H a i := fun a i => (by rw [eH1899, aZ_sF] : aZ H1899 a i = aZ H1828 a i).trans (m1834 a i)
                        have jj1907_10 : (fZ H1899 0 10).toInt = (fZ H1828 0 10).toInt := by rw [eH1899, fZ_sF_ne (by decide)]
                        have ie1902 : k0_7.toInt = (fZ H1899 0 7).toInt := by rw [← e1902]
                        have ie1904 : k1629.toInt = (fZ H1899 0 9).toInt := by rw [← e1904]
                        have ie1905 : v1898.toInt = (fZ H1899 0 8).toInt := by rw [← e1905]
                        refine g_goto ?_
                        exact ihL1835 H1899 hIH1899 hJH1899 e1900 e1901 e1902 e1903 e1904 m1906 (by rw [← e1905, ← e1902]; omega) (by omega) (by omega)
                      · refine g_aload_n rfl ?_
                        refine g_aload_n rfl ?_
                        refine g_gfi hIH1828 sm_0 rfl (fun v1908 ev1908 lv1908 uv1908 => ?_)
                        refine g_iconst (by decide) (fun v1909 kv1909 => ?_)
                        refine g_ishl' (fun v1910 ov1910 => ?_)
                        refine g_aload_n rfl ?_
                        refine g_invvi hIH1828 sm_0 rfl rfl rfl rfl (s_156 H1828 hIH1828 hJH1828) (fun v1913 H1911 r1912 => ?_)
                        obtain ⟨rfl, bv1913, p1914⟩ := r1912
                        have nv1913 : (v1913.toInt = -1 ∧ k0_7.toInt ≤ k1836.toInt) ∨ (k1836.toInt < k0_7.toInt ∧ v1913.toInt = (aZ H 1 k1836.toInt.toNat).toInt) := by rw [ek1836, e1831, ← m1834]; exact p1914
                        refine g_bipush (by decide) (fun v1915 kv1915 => ?_)
                        refine g_isub (by omega) (fun v1916 ev1916 => ?_)
                        refine g_iconst (by decide) (fun v1917 kv1917 => ?_)
                        refine g_iadd (by omega) (fun v1918 ev1918 => ?_)
                        refine g_ior' (fun v1919 ov1919 => ?_)
                        refine g_pfi hIH1828 sm_0 rfl (gz_any _) (fun H1920 eH1920 hIH1920 => ?_)
                        have hJH1920 : JN H1920 := JN_sF eH1920 hJH1828
                        have e1921 : k0_2 = fZ H1920 0 2 := by rw [eH1920, fZ_sF_ne (by decide)]; exact e1829
                        have e1922 : k0_13 = fZ H1920 0 13 := by rw [eH1920, fZ_sF_ne (by decide)]; exact e1830
                        have e1923 : k0_7 = fZ H1920 0 7 := by rw [eH1920, fZ_sF_ne (by decide)]; exact e1831
                        have e1924 : k0_19 = fZ H1920 0 19 := by rw [eH1920, fZ_sF_ne (by decide)]; exact e1832
                        have e1925 : k1629 = fZ H1920 0 9 := by rw [eH1920, fZ_sF_ne (by decide)]; exact e1833
                        have e1926 : k1836 = fZ H1920 0 8 := by rw [eH1920, fZ_sF_ne (by decide)]; exact ek1836
                        have m1927 : ∀ a i, aZ H1920 a i = aZ H a i := fun a i => (by rw [eH1920, aZ_sF] : aZ H1920 a i = aZ H1828 a i).trans (m1834 a i)
                        have jj1928_10 : (fZ H1920 0 10).toInt = (fZ H1828 0 10).toInt := by rw [eH1920, fZ_sF_ne (by decide)]
                        have ie1923 : k0_7.toInt = (fZ H1920 0 7).toInt := by rw [← e1923]
                        have ie1925 : k1629.toInt = (fZ H1920 0 9).toInt := by rw [← e1925]
                        have ie1926 : k1836.toInt = (fZ H1920 0 8).toInt := by rw [← e1926]
                        refine g_nop ?_
                        refine g_aload_n rfl ?_
                        refine g_dup rfl ?_
                        refine g_gfk hIH1920 sm_0 rfl e1926 ?_
                        refine g_iconst (by decide) (fun v1929 kv1929 => ?_)
                        refine g_iadd (by omega) (fun v1930 ev1930 => ?_)
                        refine g_pfi hIH1920 sm_0 rfl (by omega) (fun H1931 eH1931 hIH1931 => ?_)
                        have hJH1931 : JN H1931 := JN_sF eH1931 hJH1920
                        have e1932 : k0_2 = fZ H1931 0 2 := by rw [eH1931, fZ_sF_ne (by decide)]; exact e1921
                        have e1933 : k0_13 = fZ H1931 0 13 := by rw [eH1931, fZ_sF_ne (by decide)]; exact e1922
                        have e1934 : k0_7 = fZ H1931 0 7 := by rw [eH1931, fZ_sF_ne (by decide)]; exact e1923
                        have e1935 : k0_19 = fZ H1931 0 19 := by rw [eH1931, fZ_sF_ne (by decide)]; exact e1924
                        have e1936 : k1629 = fZ H1931 0 9 := by rw [eH1931, fZ_sF_ne (by decide)]; exact e1925
                        have e1937 : v1930 = fZ H1931 0 8 := by rw [eH1931, fZ_sF_eq hIH1920 sm_0 rfl]
                        have m1938 : ∀ a i, aZ H1931 a i = aZ H a i := fun a i => (by rw [eH1931, aZ_sF] : aZ H1931 a i = aZ H1920 a i).trans (m1927 a i)
                        have jj1939_10 : (fZ H1931 0 10).toInt = (fZ H1920 0 10).toInt := by rw [eH1931, fZ_sF_ne (by decide)]
                        have ie1934 : k0_7.toInt = (fZ H1931 0 7).toInt := by rw [← e1934]
                        have ie1936 : k1629.toInt = (fZ H1931 0 9).toInt := by rw [← e1936]
                        have ie1937 : v1930.toInt = (fZ H1931 0 8).toInt := by rw [← e1937]
                        refine g_goto ?_
                        exact ihL1835 H1931 hIH1931 hJH1931 e1932 e1933 e1934 e1935 e1936 m1938 (by rw [← e1937, ← e1934]; omega) (by omega) (by omega)
                exact L1835 _ H1819 hIH1819 hJH1819 e1820 e1821 e1822 e1823 e1825 m1826 (by rw [← e1824, ← e1822]; omega) (by omega) (Nat.lt_succ_self _)
            · refine g_aload_n rfl ?_
              refine g_iconst (by decide) (fun v1940 kv1940 => ?_)
              refine g_pfi hIH1653 sm_0 rfl (by omega) (fun H1941 eH1941 hIH1941 => ?_)
              have hJH1941 : JN H1941 := JN_sF eH1941 hJH1653
              have e1942 : k0_2 = fZ H1941 0 2 := by rw [eH1941, fZ_sF_ne (by decide)]; exact e1654
              have e1943 : k0_13 = fZ H1941 0 13 := by rw [eH1941, fZ_sF_ne (by decide)]; exact e1655
              have e1944 : k0_7 = fZ H1941 0 7 := by rw [eH1941, fZ_sF_ne (by decide)]; exact e1656
              have e1945 : k0_19 = fZ H1941 0 19 := by rw [eH1941, fZ_sF_ne (by decide)]; exact e1657
              have e1946 : k1629 = fZ H1941 0 8 := by rw [eH1941, fZ_sF_ne (by decide)]; exact e1658
              have e1947 : k1629 = fZ H1941 0 9 := by rw [eH1941, fZ_sF_ne (by decide)]; exact e1659
              have e1948 : v1940 = fZ H1941 0 10 := by rw [eH1941, fZ_sF_eq hIH1653 sm_0 rfl]
              have m1949 : ∀ a i, aZ H1941 a i = aZ H a i := fun a i => (by rw [eH1941, aZ_sF] : aZ H1941 a i = aZ H1653 a i).trans (m1660 a i)
              have ie1944 : k0_7.toInt = (fZ H1941 0 7).toInt := by rw [← e1944]
              have ie1946 : k1629.toInt = (fZ H1941 0 8).toInt := by rw [← e1946]
              have ie1947 : k1629.toInt = (fZ H1941 0 9).toInt := by rw [← e1947]
              have ie1948 : v1940.toInt = (fZ H1941 0 10).toInt := by rw [← e1948]
              refine g_goto ?_
              exact g_ret ⟨rfl, hIH1941, hJH1941, (e1942.symm.trans ek0_2), (e1943.symm.trans ek0_13), (e1944.symm.trans ek0_7), (e1945.symm.trans ek0_19), m1949, (by omega), (by omega)⟩
          · refine g_nop ?_
            refine g_aload_n rfl ?_
            refine g_dup rfl ?_
            refine g_gfk hIH1622 sm_0 rfl ek1629 ?_
            refine g_iconst (by decide) (fun v1950 kv1950 => ?_)
            refine g_iadd (by omega) (fun v1951 ev1951 => ?_)
            refine g_pfi hIH1622 sm_0 rfl (by omega) (fun H1952 eH1952 hIH1952 => ?_)
            have hJH1952 : JN H1952 := JN_sF eH1952 hJH1622
            have e1953 : k0_2 = fZ H1952 0 2 := by rw [eH1952, fZ_sF_ne (by decide)]; exact e1623
            have e1954 : k0_13 = fZ H1952 0 13 := by rw [eH1952, fZ_sF_ne (by decide)]; exact e1624
            have e1955 : k0_7 = fZ H1952 0 7 := by rw [eH1952, fZ_sF_ne (by decide)]; exact e1625
            have e1956 : k0_19 = fZ H1952 0 19 := by rw [eH1952, fZ_sF_ne (by decide)]; exact e1626
            have e1957 : v1951 = fZ H1952 0 8 := by rw [eH1952, fZ_sF_eq hIH1622 sm_0 rfl]
            have m1958 : ∀ a i, aZ H1952 a i = aZ H a i := fun a i => (by rw [eH1952, aZ_sF] : aZ H1952 a i = aZ H1622 a i).trans (m1627 a i)
            have jj1959_10 : (fZ H1952 0 10).toInt = (fZ H1622 0 10).toInt := by rw [eH1952, fZ_sF_ne (by decide)]
            have jj1960_9 : (fZ H1952 0 9).toInt = (fZ H1622 0 9).toInt := by rw [eH1952, fZ_sF_ne (by decide)]
            have ie1955 : k0_7.toInt = (fZ H1952 0 7).toInt := by rw [← e1955]
            have ie1957 : v1951.toInt = (fZ H1952 0 8).toInt := by rw [← e1957]
            refine g_goto ?_
            exact ihL1628 H1952 hIH1952 hJH1952 e1953 e1954 e1955 e1956 m1958 (by omega) (by omega)
    exact L1628 _ H1613 hIH1613 hJH1613 e1614 e1615 e1616 e1617 m1619 (by omega) (Nat.lt_succ_self _)
  · refine g_aload_n rfl ?_
    refine g_invvi hI sm_0 rfl rfl rfl rfl (s_156 H hI hJ) (fun v1963 H1961 r1962 => ?_)
    obtain ⟨rfl, bv1963, p1964⟩ := r1962
    have nv1963 : (v1963.toInt = -1 ∧ k0_7.toInt ≤ k0_8.toInt) ∨ (k0_8.toInt < k0_7.toInt ∧ v1963.toInt = (aZ H 1 k0_8.toInt.toNat).toInt) := by rw [ek0_8, ek0_7, ← mkall]; exact p1964
    refine g_bipush (by decide) (fun v1965 kv1965 => ?_)
    refine g_if2_ne (fun c1966 => ?_) (fun c1966 => ?_)
    · refine g_aload_n rfl ?_
      refine g_aload_n rfl ?_
      refine g_gfk hI sm_0 rfl ek0_8 ?_
      refine g_pfi hI sm_0 rfl (by omega) (fun H1967 eH1967 hIH1967 => ?_)
      have hJH1967 : JN H1967 := JN_sF eH1967 hJ
      have e1968 : k0_2 = fZ H1967 0 2 := by rw [eH1967, fZ_sF_ne (by decide)]; exact ek0_2
      have e1969 : k0_13 = fZ H1967 0 13 := by rw [eH1967, fZ_sF_ne (by decide)]; exact ek0_13
      have e1970 : k0_7 = fZ H1967 0 7 := by rw [eH1967, fZ_sF_ne (by decide)]; exact ek0_7
      have e1971 : k0_19 = fZ H1967 0 19 := by rw [eH1967, fZ_sF_ne (by decide)]; exact ek0_19
      have e1972 : k0_8 = fZ H1967 0 8 := by rw [eH1967, fZ_sF_ne (by decide)]; exact ek0_8
      have e1973 : k0_8 = fZ H1967 0 9 := by rw [eH1967, fZ_sF_eq hI sm_0 rfl]
      have m1974 : ∀ a i, aZ H1967 a i = aZ H a i := fun a i => (by rw [eH1967, aZ_sF] : aZ H1967 a i = aZ H a i).trans (mkall a i)
      have jj1975_10 : (fZ H1967 0 10).toInt = (fZ H 0 10).toInt := by rw [eH1967, fZ_sF_ne (by decide)]
      have ie1970 : k0_7.toInt = (fZ H1967 0 7).toInt := by rw [← e1970]
      have ie1972 : k0_8.toInt = (fZ H1967 0 8).toInt := by rw [← e1972]
      have ie1973 : k0_8.toInt = (fZ H1967 0 9).toInt := by rw [← e1973]
      refine g_aload_n rfl ?_
      refine g_invvi hIH1967 sm_0 rfl rfl rfl rfl (s_156 H1967 hIH1967 hJH1967) (fun v1978 H1976 r1977 => ?_)
      obtain ⟨rfl, bv1978, p1979⟩ := r1977
      have nv1978 : (v1978.toInt = -1 ∧ k0_7.toInt ≤ k0_8.toInt) ∨ (k0_8.toInt < k0_7.toInt ∧ v1978.toInt = (aZ H 1 k0_8.toInt.toNat).toInt) := by rw [e1972, e1970, ← m1974]; exact p1979
      refine g_istore_n (l' := [(0, .ref 0), (1, .int v1978)]) rfl rfl ?_
      refine g_iload_n rfl ?_
      refine g_iconst (by decide) (fun v1980 kv1980 => ?_)
      refine g_if2_ne (fun c1981 => ?_) (fun c1981 => ?_)
      · refine g_iload_n rfl ?_
        refine g_invti rfl rfl rfl (s_157 v1978 H1967 hIH1967 hJH1967) (fun v1984 H1982 r1983 => ?_)
        obtain ⟨rfl, bv1984, p1985, p1986⟩ := r1983
        refine g_if_eq (fun c1987 => ?_) (fun c1987 => ?_)
        · refine g_iload_n rfl ?_
          refine g_invti rfl rfl rfl (s_158 v1978 H1967 hIH1967 hJH1967) (fun v1990 H1988 r1989 => ?_)
          obtain ⟨rfl, bv1990, p1991, p1992⟩ := r1989
          refine g_if_eq (fun c1993 => ?_) (fun c1993 => ?_)
          · refine g_aload_n rfl ?_
            refine g_iload_n rfl ?_
            refine g_bipush (by decide) (fun v1994 kv1994 => ?_)
            refine g_if2_ne (fun c1995 => ?_) (fun c1995 => ?_)
            · refine g_iconst (by decide) (fun v1996 kv1996 => ?_)
              refine g_nop ?_
              refine g_pfi hIH1967 sm_0 rfl (by omega) (fun H1997 eH1997 hIH1997 => ?_)
              have hJH1997 : JN H1997 := JN_sF eH1997 hJH1967
              have e1998 : k0_2 = fZ H1997 0 2 := by rw [eH1997, fZ_sF_ne (by decide)]; exact e1968
              have e1999 : k0_13 = fZ H1997 0 13 := by rw [eH1997, fZ_sF_ne (by decide)]; exact e1969
              have e2000 : k0_7 = fZ H1997 0 7 := by rw [eH1997, fZ_sF_ne (by decide)]; exact e1970
              have e2001 : k0_19 = fZ H1997 0 19 := by rw [eH1997, fZ_sF_ne (by decide)]; exact e1971
              have e2002 : k0_8 = fZ H1997 0 8 := by rw [eH1997, fZ_sF_ne (by decide)]; exact e1972
              have e2003 : k0_8 = fZ H1997 0 9 := by rw [eH1997, fZ_sF_ne (by decide)]; exact e1973
              have e2004 : v1996 = fZ H1997 0 10 := by rw [eH1997, fZ_sF_eq hIH1967 sm_0 rfl]
              have m2005 : ∀ a i, aZ H1997 a i = aZ H a i := fun a i => (by rw [eH1997, aZ_sF] : aZ H1997 a i = aZ H1967 a i).trans (m1974 a i)
              have ie2000 : k0_7.toInt = (fZ H1997 0 7).toInt := by rw [← e2000]
              have ie2002 : k0_8.toInt = (fZ H1997 0 8).toInt := by rw [← e2002]
              have ie2003 : k0_8.toInt = (fZ H1997 0 9).toInt := by rw [← e2003]
              have ie2004 : v1996.toInt = (fZ H1997 0 10).toInt := by rw [← e2004]
              refine g_aload_n rfl ?_
              refine g_dup rfl ?_
              refine g_gfk hIH1997 sm_0 rfl e2002 ?_
              refine g_iconst (by decide) (fun v2006 kv2006 => ?_)
              refine g_iadd (by omega) (fun v2007 ev2007 => ?_)
              refine g_pfi hIH1997 sm_0 rfl (by omega) (fun H2008 eH2008 hIH2008 => ?_)
              have hJH2008 : JN H2008 := JN_sF eH2008 hJH1997
              have e2009 : k0_2 = fZ H2008 0 2 := by rw [eH2008, fZ_sF_ne (by decide)]; exact e1998
              have e2010 : k0_13 = fZ H2008 0 13 := by rw [eH2008, fZ_sF_ne (by decide)]; exact e1999
              have e2011 : k0_7 = fZ H2008 0 7 := by rw [eH2008, fZ_sF_ne (by decide)]; exact e2000
              have e2012 : k0_19 = fZ H2008 0 19 := by rw [eH2008, fZ_sF_ne (by decide)]; exact e2001
              have e2013 : k0_8 = fZ H2008 0 9 := by rw [eH2008, fZ_sF_ne (by decide)]; exact e2003
              have e2014 : v1996 = fZ H2008 0 10 := by rw [eH2008, fZ_sF_ne (by decide)]; exact e2004
              have e2015 : v2007 = fZ H2008 0 8 := by rw [eH2008, fZ_sF_eq hIH1997 sm_0 rfl]
              have m2016 : ∀ a i, aZ H2008 a i = aZ H a i := fun a i => (by rw [eH2008, aZ_sF] : aZ H2008 a i = aZ H1997 a i).trans (m2005 a i)
              have ie2011 : k0_7.toInt = (fZ H2008 0 7).toInt := by rw [← e2011]
              have ie2013 : k0_8.toInt = (fZ H2008 0 9).toInt := by rw [← e2013]
              have ie2014 : v1996.toInt = (fZ H2008 0 10).toInt := by rw [← e2014]
              have ie2015 : v2007.toInt = (fZ H2008 0 8).toInt := by rw [← e2015]
              refine g_nop ?_
              exact g_ret ⟨rfl, hIH2008, hJH2008, (e2009.symm.trans ek0_2), (e2010.symm.trans ek0_13), (e2011.symm.trans ek0_7), (e2012.symm.trans ek0_19), m2016, (by omega), (by omega)⟩
            · refine g_iconst (by decide) (fun v2017 kv2017 => ?_)
              refine g_goto ?_
              refine g_pfi hIH1967 sm_0 rfl (by omega) (fun H2018 eH2018 hIH2018 => ?_)
              have hJH2018 : JN H2018 := JN_sF eH2018 hJH1967
              have e2019 : k0_2 = fZ H2018 0 2 := by rw [eH2018, fZ_sF_ne (by decide)]; exact e1968
              have e2020 : k0_13 = fZ H2018 0 13 := by rw [eH2018, fZ_sF_ne (by decide)]; exact e1969
              have e2021 : k0_7 = fZ H2018 0 7 := by rw [eH2018, fZ_sF_ne (by decide)]; exact e1970
              have e2022 : k0_19 = fZ H2018 0 19 := by rw [eH2018, fZ_sF_ne (by decide)]; exact e1971
              have e2023 : k0_8 = fZ H2018 0 8 := by rw [eH2018, fZ_sF_ne (by decide)]; exact e1972
              have e2024 : k0_8 = fZ H2018 0 9 := by rw [eH2018, fZ_sF_ne (by decide)]; exact e1973
              have e2025 : v2017 = fZ H2018 0 10 := by rw [eH2018, fZ_sF_eq hIH1967 sm_0 rfl]
              have m2026 : ∀ a i, aZ H2018 a i = aZ H a i := fun a i => (by rw [eH2018, aZ_sF] : aZ H2018 a i = aZ H1967 a i).trans (m1974 a i)
              have ie2021 : k0_7.toInt = (fZ H2018 0 7).toInt := by rw [← e2021]
              have ie2023 : k0_8.toInt = (fZ H2018 0 8).toInt := by rw [← e2023]
              have ie2024 : k0_8.toInt = (fZ H2018 0 9).toInt := by rw [← e2024]
              have ie2025 : v2017.toInt = (fZ H2018 0 10).toInt := by rw [← e2025]
              refine g_aload_n rfl ?_
              refine g_dup rfl ?_
              refine g_gfk hIH2018 sm_0 rfl e2023 ?_
              refine g_iconst (by decide) (fun v2027 kv2027 => ?_)
              refine g_iadd (by omega) (fun v2028 ev2028 => ?_)
              refine g_pfi hIH2018 sm_0 rfl (by omega) (fun H2029 eH2029 hIH2029 => ?_)
              have hJH2029 : JN H2029 := JN_sF eH2029 hJH2018
              have e2030 : k0_2 = fZ H2029 0 2 := by rw [eH2029, fZ_sF_ne (by decide)]; exact e2019
              have e2031 : k0_13 = fZ H2029 0 13 := by rw [eH2029, fZ_sF_ne (by decide)]; exact e2020
              have e2032 : k0_7 = fZ H2029 0 7 := by rw [eH2029, fZ_sF_ne (by decide)]; exact e2021
              have e2033 : k0_19 = fZ H2029 0 19 := by rw [eH2029, fZ_sF_ne (by decide)]; exact e2022
              have e2034 : k0_8 = fZ H2029 0 9 := by rw [eH2029, fZ_sF_ne (by decide)]; exact e2024
              have e2035 : v2017 = fZ H2029 0 10 := by rw [eH2029, fZ_sF_ne (by decide)]; exact e2025
              have e2036 : v2028 = fZ H2029 0 8 := by rw [eH2029, fZ_sF_eq hIH2018 sm_0 rfl]
              have m2037 : ∀ a i, aZ H2029 a i = aZ H a i := fun a i => (by rw [eH2029, aZ_sF] : aZ H2029 a i = aZ H2018 a i).trans (m2026 a i)
              have ie2032 : k0_7.toInt = (fZ H2029 0 7).toInt := by rw [← e2032]
              have ie2034 : k0_8.toInt = (fZ H2029 0 9).toInt := by rw [← e2034]
              have ie2035 : v2017.toInt = (fZ H2029 0 10).toInt := by rw [← e2035]
              have ie2036 : v2028.toInt = (fZ H2029 0 8).toInt := by rw [← e2036]
              refine g_nop ?_
              exact g_ret ⟨rfl, hIH2029, hJH2029, (e2030.symm.trans ek0_2), (e2031.symm.trans ek0_13), (e2032.symm.trans ek0_7), (e2033.symm.trans ek0_19), m2037, (by omega), (by omega)⟩
          · refine g_aload_n rfl ?_
            refine g_iconst (by decide) (fun v2038 kv2038 => ?_)
            refine g_pfi hIH1967 sm_0 rfl (by omega) (fun H2039 eH2039 hIH2039 => ?_)
            have hJH2039 : JN H2039 := JN_sF eH2039 hJH1967
            have e2040 : k0_2 = fZ H2039 0 2 := by rw [eH2039, fZ_sF_ne (by decide)]; exact e1968
            have e2041 : k0_13 = fZ H2039 0 13 := by rw [eH2039, fZ_sF_ne (by decide)]; exact e1969
            have e2042 : k0_7 = fZ H2039 0 7 := by rw [eH2039, fZ_sF_ne (by decide)]; exact e1970
            have e2043 : k0_19 = fZ H2039 0 19 := by rw [eH2039, fZ_sF_ne (by decide)]; exact e1971
            have e2044 : k0_8 = fZ H2039 0 8 := by rw [eH2039, fZ_sF_ne (by decide)]; exact e1972
            have e2045 : k0_8 = fZ H2039 0 9 := by rw [eH2039, fZ_sF_ne (by decide)]; exact e1973
            have e2046 : v2038 = fZ H2039 0 10 := by rw [eH2039, fZ_sF_eq hIH1967 sm_0 rfl]
            have m2047 : ∀ a i, aZ H2039 a i = aZ H a i := fun a i => (by rw [eH2039, aZ_sF] : aZ H2039 a i = aZ H1967 a i).trans (m1974 a i)
            have ie2042 : k0_7.toInt = (fZ H2039 0 7).toInt := by rw [← e2042]
            have ie2044 : k0_8.toInt = (fZ H2039 0 8).toInt := by rw [← e2044]
            have ie2045 : k0_8.toInt = (fZ H2039 0 9).toInt := by rw [← e2045]
            have ie2046 : v2038.toInt = (fZ H2039 0 10).toInt := by rw [← e2046]
            refine g_aload_n rfl ?_
            refine g_iconst (by decide) (fun v2048 kv2048 => ?_)
            refine g_pfi hIH2039 sm_0 rfl (gz_any _) (fun H2049 eH2049 hIH2049 => ?_)
            have hJH2049 : JN H2049 := JN_sF eH2049 hJH2039
            have e2050 : k0_2 = fZ H2049 0 2 := by rw [eH2049, fZ_sF_ne (by decide)]; exact e2040
            have e2051 : k0_13 = fZ H2049 0 13 := by rw [eH2049, fZ_sF_ne (by decide)]; exact e2041
            have e2052 : k0_7 = fZ H2049 0 7 := by rw [eH2049, fZ_sF_ne (by decide)]; exact e2042
            have e2053 : k0_19 = fZ H2049 0 19 := by rw [eH2049, fZ_sF_ne (by decide)]; exact e2043
            have e2054 : k0_8 = fZ H2049 0 8 := by rw [eH2049, fZ_sF_ne (by decide)]; exact e2044
            have e2055 : k0_8 = fZ H2049 0 9 := by rw [eH2049, fZ_sF_ne (by decide)]; exact e2045
            have e2056 : v2038 = fZ H2049 0 10 := by rw [eH2049, fZ_sF_ne (by decide)]; exact e2046
            have m2057 : ∀ a i, aZ H2049 a i = aZ H a i := fun a i => (by rw [eH2049, aZ_sF] : aZ H2049 a i = aZ H2039 a i).trans (m2047 a i)
            have ie2052 : k0_7.toInt = (fZ H2049 0 7).toInt := by rw [← e2052]
            have ie2054 : k0_8.toInt = (fZ H2049 0 8).toInt := by rw [← e2054]
            have ie2055 : k0_8.toInt = (fZ H2049 0 9).toInt := by rw [← e2055]
            have ie2056 : v2038.toInt = (fZ H2049 0 10).toInt := by rw [← e2056]
            refine g_nop ?_
            have L2066 : ∀ (N : Nat) (H2058 : mzH), gI SM H2058 → JN H2058 → k0_2 = fZ H2058 0 2 → k0_13 = fZ H2058 0 13 → k0_7 = fZ H2058 0 7 → k0_19 = fZ H2058 0 19 → k0_8 = fZ H2058 0 9 → v2038 = fZ H2058 0 10 → (∀ a i, aZ H2058 a i = aZ H a i) → ((fZ H 0 8).toInt < (fZ H2058 0 8).toInt ∨ ((fZ H2058 0 8).toInt < (fZ H2058 0 7).toInt ∧ 48 ≤ (aZ H 1 (fZ H2058 0 8).toInt.toNat).toInt ∧ (aZ H 1 (fZ H2058 0 8).toInt.toNat).toInt ≤ 57)) → (fZ H 0 8).toInt ≤ (fZ H2058 0 8).toInt → (900 - (fZ H2058 0 8).toInt).toNat < N → gG 2 zB_159 (mzBlk zB_159 10) [(0, .ref 0), (1, .int v1978)] [] H2058 0 0 (gRv (fun H' => gI SM H' ∧ JN H' ∧ fZ H' 0 2 = fZ H 0 2 ∧ fZ H' 0 13 = fZ H 0 13 ∧ fZ H' 0 7 = fZ H 0 7 ∧ fZ H' 0 19 = fZ H 0 19 ∧ (∀ a i, aZ H' a i = aZ H a i) ∧ (fZ H 0 8).toInt ≤ (fZ H' 0 8).toInt ∧ ((fZ H' 0 10).toInt = 3 ∨ (fZ H 0 8).toInt < (fZ H' 0 8).toInt))) := by
              intro N
              induction N with
              | zero => intro H2058 hIH2058 hJH2058 e2059 e2060 e2061 e2062 e2063 e2064 m2065 q1 q2 hmL2066; exact absurd hmL2066 (Nat.not_lt_zero _)
              | succ N ihL2066 =>
                intro H2058 hIH2058 hJH2058 e2059 e2060 e2061 e2062 e2063 e2064 m2065 q1 q2 hmL2066
                obtain ⟨k2067, ek2067⟩ : ∃ z, z = fZ H2058 0 8 := ⟨_, rfl⟩
                have ik2067 : k2067.toInt = (fZ H2058 0 8).toInt := by rw [← ek2067]
                have bk2067 : 0 ≤ k2067.toInt ∧ k2067.toInt ≤ 900 := by rw [ek2067]; exact fZ_of hIH2058 sm_0 rfl
                rw [← ek2067, ← e2061] at q1
                refine g_aload_n rfl ?_
                refine g_invvi hIH2058 sm_0 rfl rfl rfl rfl (s_156 H2058 hIH2058 hJH2058) (fun v2070 H2068 r2069 => ?_)
                obtain ⟨rfl, bv2070, p2071⟩ := r2069
                have nv2070 : (v2070.toInt = -1 ∧ k0_7.toInt ≤ k2067.toInt) ∨ (k2067.toInt < k0_7.toInt ∧ v2070.toInt = (aZ H 1 k2067.toInt.toNat).toInt) := by rw [ek2067, e2061, ← m2065]; exact p2071
                refine g_invti rfl rfl rfl (s_158 v2070 H2058 hIH2058 hJH2058) (fun v2074 H2072 r2073 => ?_)
                obtain ⟨rfl, bv2074, p2075, p2076⟩ := r2073
                refine g_if_eq (fun c2077 => ?_) (fun c2077 => ?_)
                · exact g_ret ⟨rfl, hIH2058, hJH2058, (e2059.symm.trans ek0_2), (e2060.symm.trans ek0_13), (e2061.symm.trans ek0_7), (e2062.symm.trans ek0_19), m2065, (by omega), (by omega)⟩
                · refine g_aload_n rfl ?_
                  refine g_aload_n rfl ?_
                  refine g_gfi hIH2058 sm_0 rfl (fun v2078 ev2078 lv2078 uv2078 => ?_)
                  refine g_sipush (by decide) (fun v2079 kv2079 => ?_)
                  refine g_if2_le (fun c2080 => ?_) (fun c2080 => ?_)
                  · refine g_bipush (by decide) (fun v2081 kv2081 => ?_)
                    refine g_aload_n rfl ?_
                    refine g_gfi hIH2058 sm_0 rfl (fun v2082 ev2082 lv2082 uv2082 => ?_)
                    refine g_imul' (fun v2083 ov2083 => ?_)
                    refine g_aload_n rfl ?_
                    refine g_invvi hIH2058 sm_0 rfl rfl rfl rfl (s_156 H2058 hIH2058 hJH2058) (fun v2086 H2084 r2085 => ?_)
                    obtain ⟨rfl, bv2086, p2087⟩ := r2085
                    have nv2086 : (v2086.toInt = -1 ∧ k0_7.toInt ≤ k2067.toInt) ∨ (k2067.toInt < k0_7.toInt ∧ v2086.toInt = (aZ H 1 k2067.toInt.toNat).toInt) := by rw [ek2067, e2061, ← m2065]; exact p2087
                    refine g_iadd' (fun v2088 ov2088 => ?_)
                    refine g_bipush (by decide) (fun v2089 kv2089 => ?_)
                    refine g_isub' (fun v2090 ov2090 => ?_)
                    refine g_nop ?_
                    refine g_pfi hIH2058 sm_0 rfl (gz_any _) (fun H2091 eH2091 hIH2091 => ?_)
                    have hJH2091 : JN H2091 := JN_sF eH2091 hJH2058
                    have e2092 : k0_2 = fZ H2091 0 2 := by rw [eH2091, fZ_sF_ne (by decide)]; exact e2059
                    have e2093 : k0_13 = fZ H2091 0 13 := by rw [eH2091, fZ_sF_ne (by decide)]; exact e2060
                    have e2094 : k0_7 = fZ H2091 0 7 := by rw [eH2091, fZ_sF_ne (by decide)]; exact e2061
                    have e2095 : k0_19 = fZ H2091 0 19 := by rw [eH2091, fZ_sF_ne (by decide)]; exact e2062
                    have e2096 : k0_8 = fZ H2091 0 9 := by rw [eH2091, fZ_sF_ne (by decide)]; exact e2063
                    have e2097 : v2038 = fZ H2091 0 10 := by rw [eH2091, fZ_sF_ne (by decide)]; exact e2064
                    have e2098 : k2067 = fZ H2091 0 8 := by rw [eH2091, fZ_sF_ne (by decide)]; exact ek2067
                    have m2099 : ∀ a i, aZ H2091 a i = aZ H a i := fun a i => (by rw [eH2091, aZ_sF] : aZ H2091 a i = aZ H2058 a i).trans (m2065 a i)
                    have ie2094 : k0_7.toInt = (fZ H2091 0 7).toInt := by rw [← e2094]
                    have ie2096 : k0_8.toInt = (fZ H2091 0 9).toInt := by rw [← e2096]
                    have ie2097 : v2038.toInt = (fZ H2091 0 10).toInt := by rw [← e2097]
                    have ie2098 : k2067.toInt = (fZ H2091 0 8).toInt := by rw [← e2098]
                    refine g_aload_n rfl ?_
                    refine g_dup rfl ?_
                    refine g_gfk hIH2091 sm_0 rfl e2098 ?_
                    refine g_iconst (by decide) (fun v2100 kv2100 => ?_)
                    refine g_iadd (by omega) (fun v2101 ev2101 => ?_)
                    refine g_pfi hIH2091 sm_0 rfl (by omega) (fun H2102 eH2102 hIH2102 => ?_)
                    have hJH2102 : JN H2102 := JN_sF eH2102 hJH2091
                    have e2103 : k0_2 = fZ H2102 0 2 := by rw [eH2102, fZ_sF_ne (by decide)]; exact e2092
                    have e2104 : k0_13 = fZ H2102 0 13 := by rw [eH2102, fZ_sF_ne (by decide)]; exact e2093
                    have e2105 : k0_7 = fZ H2102 0 7 := by rw [eH2102, fZ_sF_ne (by decide)]; exact e2094
                    have e2106 : k0_19 = fZ H2102 0 19 := by rw [eH2102, fZ_sF_ne (by decide)]; exact e2095
                    have e2107 : k0_8 = fZ H2102 0 9 := by rw [eH2102, fZ_sF_ne (by decide)]; exact e2096
                    have e2108 : v2038 = fZ H2102 0 10 := by rw [eH2102, fZ_sF_ne (by decide)]; exact e2097
                    have e2109 : v2101 = fZ H2102 0 8 := by rw [eH2102, fZ_sF_eq hIH2091 sm_0 rfl]
                    have m2110 : ∀ a i, aZ H2102 a i = aZ H a i := fun a i => (by rw [eH2102, aZ_sF] : aZ H2102 a i = aZ H2091 a i).trans (m2099 a i)
                    have ie2105 : k0_7.toInt = (fZ H2102 0 7).toInt := by rw [← e2105]
                    have ie2107 : k0_8.toInt = (fZ H2102 0 9).toInt := by rw [← e2107]
                    have ie2108 : v2038.toInt = (fZ H2102 0 10).toInt := by rw [← e2108]
                    have ie2109 : v2101.toInt = (fZ H2102 0 8).toInt := by rw [← e2109]
                    refine g_goto ?_
                    exact ihL2066 H2102 hIH2102 hJH2102 e2103 e2104 e2105 e2106 e2107 e2108 m2110 (by rw [← e2109, ← e2105]; omega) (by omega) (by omega)
                  · refine g_aload_n rfl ?_
                    refine g_gfi hIH2058 sm_0 rfl (fun v2111 ev2111 lv2111 uv2111 => ?_)
                    refine g_goto ?_
                    refine g_pfi hIH2058 sm_0 rfl (gz_any _) (fun H2112 eH2112 hIH2112 => ?_)
                    have hJH2112 : JN H2112 := JN_sF eH2112 hJH2058
                    have e2113 : k0_2 = fZ H2112 0 2 := by rw [eH2112, fZ_sF_ne (by decide)]; exact e2059
                    have e2114 : k0_13 = fZ H2112 0 13 := by rw [eH2112, fZ_sF_ne (by decide)]; exact e2060
                    have e2115 : k0_7 = fZ H2112 0 7 := by rw [eH2112, fZ_sF_ne (by decide)]; exact e2061
                    have e2116 : k0_19 = fZ H2112 0 19 := by rw [eH2112, fZ_sF_ne (by decide)]; exact e2062
                    have e2117 : k0_8 = fZ H2112 0 9 := by rw [eH2112, fZ_sF_ne (by decide)]; exact e2063
                    have e2118 : v2038 = fZ H2112 0 10 := by rw [eH2112, fZ_sF_ne (by decide)]; exact e2064
                    have e2119 : k2067 = fZ H2112 0 8 := by rw [eH2112, fZ_sF_ne (by decide)]; exact ek2067
                    have m2120 : ∀ a i, aZ H2112 a i = aZ H a i := fun a i => (by rw [eH2112, aZ_sF] : aZ H2112 a i = aZ H2058 a i).trans (m2065 a i)
                    have ie2115 : k0_7.toInt = (fZ H2112 0 7).toInt := by rw [← e2115]
                    have ie2117 : k0_8.toInt = (fZ H2112 0 9).toInt := by rw [← e2117]
                    have ie2118 : v2038.toInt = (fZ H2112 0 10).toInt := by rw [← e2118]
                    have ie2119 : k2067.toInt = (fZ H2112 0 8).toInt := by rw [← e2119]
                    refine g_aload_n rfl ?_
                    refine g_dup rfl ?_
                    refine g_gfk hIH2112 sm_0 rfl e2119 ?_
                    refine g_iconst (by decide) (fun v2121 kv2121 => ?_)
                    refine g_iadd (by omega) (fun v2122 ev2122 => ?_)
                    refine g_pfi hIH2112 sm_0 rfl (by omega) (fun H2123 eH2123 hIH2123 => ?_)
                    have hJH2123 : JN H2123 := JN_sF eH2123 hJH2112
                    have e2124 : k0_2 = fZ H2123 0 2 := by rw [eH2123, fZ_sF_ne (by decide)]; exact e2113
                    have e2125 : k0_13 = fZ H2123 0 13 := by rw [eH2123, fZ_sF_ne (by decide)]; exact e2114
                    have e2126 : k0_7 = fZ H2123 0 7 := by rw [eH2123, fZ_sF_ne (by decide)]; exact e2115
                    have e2127 : k0_19 = fZ H2123 0 19 := by rw [eH2123, fZ_sF_ne (by decide)]; exact e2116
                    have e2128 : k0_8 = fZ H2123 0 9 := by rw [eH2123, fZ_sF_ne (by decide)]; exact e2117
                    have e2129 : v2038 = fZ H2123 0 10 := by rw [eH2123, fZ_sF_ne (by decide)]; exact e2118
                    have e2130 : v2122 = fZ H2123 0 8 := by rw [eH2123, fZ_sF_eq hIH2112 sm_0 rfl]
                    have m2131 : ∀ a i, aZ H2123 a i = aZ H a i := fun a i => (by rw [eH2123, aZ_sF] : aZ H2123 a i = aZ H2112 a i).trans (m2120 a i)
                    have ie2126 : k0_7.toInt = (fZ H2123 0 7).toInt := by rw [← e2126]
                    have ie2128 : k0_8.toInt = (fZ H2123 0 9).toInt := by rw [← e2128]
                    have ie2129 : v2038.toInt = (fZ H2123 0 10).toInt := by rw [← e2129]
                    have ie2130 : v2122.toInt = (fZ H2123 0 8).toInt := by rw [← e2130]
                    refine g_goto ?_
                    exact ihL2066 H2123 hIH2123 hJH2123 e2124 e2125 e2126 e2127 e2128 e2129 m2131 (by rw [← e2130, ← e2126]; omega) (by omega) (by omega)
            exact L2066 _ H2049 hIH2049 hJH2049 e2050 e2051 e2052 e2053 e2055 e2056 m2057 (by rw [← e2054, ← e2052]; omega) (by omega) (Nat.lt_succ_self _)
        · refine g_aload_n rfl ?_
          refine g_iconst (by decide) (fun v2132 kv2132 => ?_)
          refine g_pfi hIH1967 sm_0 rfl (gz_any _) (fun H2133 eH2133 hIH2133 => ?_)
          have hJH2133 : JN H2133 := JN_sF eH2133 hJH1967
          have e2134 : k0_2 = fZ H2133 0 2 := by rw [eH2133, fZ_sF_ne (by decide)]; exact e1968
          have e2135 : k0_13 = fZ H2133 0 13 := by rw [eH2133, fZ_sF_ne (by decide)]; exact e1969
          have e2136 : k0_7 = fZ H2133 0 7 := by rw [eH2133, fZ_sF_ne (by decide)]; exact e1970
          have e2137 : k0_19 = fZ H2133 0 19 := by rw [eH2133, fZ_sF_ne (by decide)]; exact e1971
          have e2138 : k0_8 = fZ H2133 0 8 := by rw [eH2133, fZ_sF_ne (by decide)]; exact e1972
          have e2139 : k0_8 = fZ H2133 0 9 := by rw [eH2133, fZ_sF_ne (by decide)]; exact e1973
          have m2140 : ∀ a i, aZ H2133 a i = aZ H a i := fun a i => (by rw [eH2133, aZ_sF] : aZ H2133 a i = aZ H1967 a i).trans (m1974 a i)
          have jj2141_10 : (fZ H2133 0 10).toInt = (fZ H1967 0 10).toInt := by rw [eH2133, fZ_sF_ne (by decide)]
          have ie2136 : k0_7.toInt = (fZ H2133 0 7).toInt := by rw [← e2136]
          have ie2138 : k0_8.toInt = (fZ H2133 0 8).toInt := by rw [← e2138]
          have ie2139 : k0_8.toInt = (fZ H2133 0 9).toInt := by rw [← e2139]
          refine g_nop ?_
          have L2149 : ∀ (N : Nat) (H2142 : mzH), gI SM H2142 → JN H2142 → k0_2 = fZ H2142 0 2 → k0_13 = fZ H2142 0 13 → k0_7 = fZ H2142 0 7 → k0_19 = fZ H2142 0 19 → k0_8 = fZ H2142 0 9 → (∀ a i, aZ H2142 a i = aZ H a i) → ((fZ H 0 8).toInt < (fZ H2142 0 8).toInt ∨ ((fZ H2142 0 8).toInt < (fZ H2142 0 7).toInt ∧ 97 ≤ (aZ H 1 (fZ H2142 0 8).toInt.toNat).toInt ∧ (aZ H 1 (fZ H2142 0 8).toInt.toNat).toInt ≤ 122)) → (fZ H 0 8).toInt ≤ (fZ H2142 0 8).toInt → (900 - (fZ H2142 0 8).toInt).toNat < N → gG 2 zB_159 (mzBlk zB_159 4) [(0, .ref 0), (1, .int v1978)] [] H2142 0 0 (gRv (fun H' => gI SM H' ∧ JN H' ∧ fZ H' 0 2 = fZ H 0 2 ∧ fZ H' 0 13 = fZ H 0 13 ∧ fZ H' 0 7 = fZ H 0 7 ∧ fZ H' 0 19 = fZ H 0 19 ∧ (∀ a i, aZ H' a i = aZ H a i) ∧ (fZ H 0 8).toInt ≤ (fZ H' 0 8).toInt ∧ ((fZ H' 0 10).toInt = 3 ∨ (fZ H 0 8).toInt < (fZ H' 0 8).toInt))) := by
            intro N
            induction N with
            | zero => intro H2142 hIH2142 hJH2142 e2143 e2144 e2145 e2146 e2147 m2148 q1 q2 hmL2149; exact absurd hmL2149 (Nat.not_lt_zero _)
            | succ N ihL2149 =>
              intro H2142 hIH2142 hJH2142 e2143 e2144 e2145 e2146 e2147 m2148 q1 q2 hmL2149
              obtain ⟨k2150, ek2150⟩ : ∃ z, z = fZ H2142 0 8 := ⟨_, rfl⟩
              have ik2150 : k2150.toInt = (fZ H2142 0 8).toInt := by rw [← ek2150]
              have bk2150 : 0 ≤ k2150.toInt ∧ k2150.toInt ≤ 900 := by rw [ek2150]; exact fZ_of hIH2142 sm_0 rfl
              rw [← ek2150, ← e2145] at q1
              refine g_aload_n rfl ?_
              refine g_invvi hIH2142 sm_0 rfl rfl rfl rfl (s_156 H2142 hIH2142 hJH2142) (fun v2153 H2151 r2152 => ?_)
              obtain ⟨rfl, bv2153, p2154⟩ := r2152
              have nv2153 : (v2153.toInt = -1 ∧ k0_7.toInt ≤ k2150.toInt) ∨ (k2150.toInt < k0_7.toInt ∧ v2153.toInt = (aZ H 1 k2150.toInt.toNat).toInt) := by rw [ek2150, e2145, ← m2148]; exact p2154
              refine g_invti rfl rfl rfl (s_157 v2153 H2142 hIH2142 hJH2142) (fun v2157 H2155 r2156 => ?_)
              obtain ⟨rfl, bv2157, p2158, p2159⟩ := r2156
              refine g_if_eq (fun c2160 => ?_) (fun c2160 => ?_)
              · refine g_aload_n rfl ?_
                refine g_aload_n rfl ?_
                refine g_gfk hIH2142 sm_0 rfl ek2150 ?_
                refine g_aload_n rfl ?_
                refine g_gfk hIH2142 sm_0 rfl e2147 ?_
                refine g_isub (by omega) (fun v2161 ev2161 => ?_)
                refine g_bipush (by decide) (fun v2162 kv2162 => ?_)
                refine g_if2_gt (fun c2163 => ?_) (fun c2163 => ?_)
                · refine g_iconst (by decide) (fun v2164 kv2164 => ?_)
                  refine g_nop ?_
                  refine g_pfi hIH2142 sm_0 rfl (by omega) (fun H2165 eH2165 hIH2165 => ?_)
                  have hJH2165 : JN H2165 := JN_sF eH2165 hJH2142
                  have e2166 : k0_2 = fZ H2165 0 2 := by rw [eH2165, fZ_sF_ne (by decide)]; exact e2143
                  have e2167 : k0_13 = fZ H2165 0 13 := by rw [eH2165, fZ_sF_ne (by decide)]; exact e2144
                  have e2168 : k0_7 = fZ H2165 0 7 := by rw [eH2165, fZ_sF_ne (by decide)]; exact e2145
                  have e2169 : k0_19 = fZ H2165 0 19 := by rw [eH2165, fZ_sF_ne (by decide)]; exact e2146
                  have e2170 : k0_8 = fZ H2165 0 9 := by rw [eH2165, fZ_sF_ne (by decide)]; exact e2147
                  have e2171 : k2150 = fZ H2165 0 8 := by rw [eH2165, fZ_sF_ne (by decide)]; exact ek2150
                  have e2172 : v2164 = fZ H2165 0 10 := by rw [eH2165, fZ_sF_eq hIH2142 sm_0 rfl]
                  have m2173 : ∀ a i, aZ H2165 a i = aZ H a i := fun a i => (by rw [eH2165, aZ_sF] : aZ H2165 a i = aZ H2142 a i).trans (m2148 a i)
                  have ie2168 : k0_7.toInt = (fZ H2165 0 7).toInt := by rw [← e2168]
                  have ie2170 : k0_8.toInt = (fZ H2165 0 9).toInt := by rw [← e2170]
                  have ie2171 : k2150.toInt = (fZ H2165 0 8).toInt := by rw [← e2171]
                  have ie2172 : v2164.toInt = (fZ H2165 0 10).toInt := by rw [← e2172]
                  refine g_aload_n rfl ?_
                  refine g_aload_n rfl ?_
                  refine g_invvi hIH2165 sm_0 rfl rfl rfl rfl (s_160 H2165 hIH2165 hJH2165) (fun v2176 H2174 r2175 => ?_)
                  obtain rfl := r2175
                  refine g_pfi hIH2165 sm_0 rfl (gz_any _) (fun H2177 eH2177 hIH2177 => ?_)
                  have hJH2177 : JN H2177 := JN_sF eH2177 hJH2165
                  have e2178 : k0_2 = fZ H2177 0 2 := by rw [eH2177, fZ_sF_ne (by decide)]; exact e2166
                  have e2179 : k0_13 = fZ H2177 0 13 := by rw [eH2177, fZ_sF_ne (by decide)]; exact e2167
                  have e2180 : k0_7 = fZ H2177 0 7 := by rw [eH2177, fZ_sF_ne (by decide)]; exact e2168
                  have e2181 : k0_19 = fZ H2177 0 19 := by rw [eH2177, fZ_sF_ne (by decide)]; exact e2169
                  have e2182 : k0_8 = fZ H2177 0 9 := by rw [eH2177, fZ_sF_ne (by decide)]; exact e2170
                  have e2183 : k2150 = fZ H2177 0 8 := by rw [eH2177, fZ_sF_ne (by decide)]; exact e2171
                  have e2184 : v2164 = fZ H2177 0 10 := by rw [eH2177, fZ_sF_ne (by decide)]; exact e2172
                  have m2185 : ∀ a i, aZ H2177 a i = aZ H a i := fun a i => (by rw [eH2177, aZ_sF] : aZ H2177 a i = aZ H2165 a i).trans (m2173 a i)
                  have ie2180 : k0_7.toInt = (fZ H2177 0 7).toInt := by rw [← e2180]
                  have ie2182 : k0_8.toInt = (fZ H2177 0 9).toInt := by rw [← e2182]
                  have ie2183 : k2150.toInt = (fZ H2177 0 8).toInt := by rw [← e2183]
                  have ie2184 : v2164.toInt = (fZ H2177 0 10).toInt := by rw [← e2184]
                  refine g_goto ?_
                  exact g_ret ⟨rfl, hIH2177, hJH2177, (e2178.symm.trans ek0_2), (e2179.symm.trans ek0_13), (e2180.symm.trans ek0_7), (e2181.symm.trans ek0_19), m2185, (by omega), (by omega)⟩
                · refine g_iconst (by decide) (fun v2186 kv2186 => ?_)
                  refine g_goto ?_
                  refine g_pfi hIH2142 sm_0 rfl (by omega) (fun H2187 eH2187 hIH2187 => ?_)
                  have hJH2187 : JN H2187 := JN_sF eH2187 hJH2142
                  have e2188 : k0_2 = fZ H2187 0 2 := by rw [eH2187, fZ_sF_ne (by decide)]; exact e2143
                  have e2189 : k0_13 = fZ H2187 0 13 := by rw [eH2187, fZ_sF_ne (by decide)]; exact e2144
                  have e2190 : k0_7 = fZ H2187 0 7 := by rw [eH2187, fZ_sF_ne (by decide)]; exact e2145
                  have e2191 : k0_19 = fZ H2187 0 19 := by rw [eH2187, fZ_sF_ne (by decide)]; exact e2146
                  have e2192 : k0_8 = fZ H2187 0 9 := by rw [eH2187, fZ_sF_ne (by decide)]; exact e2147
                  have e2193 : k2150 = fZ H2187 0 8 := by rw [eH2187, fZ_sF_ne (by decide)]; exact ek2150
                  have e2194 : v2186 = fZ H2187 0 10 := by rw [eH2187, fZ_sF_eq hIH2142 sm_0 rfl]
                  have m2195 : ∀ a i, aZ H2187 a i = aZ H a i := fun a i => (by rw [eH2187, aZ_sF] : aZ H2187 a i = aZ H2142 a i).trans (m2148 a i)
                  have ie2190 : k0_7.toInt = (fZ H2187 0 7).toInt := by rw [← e2190]
                  have ie2192 : k0_8.toInt = (fZ H2187 0 9).toInt := by rw [← e2192]
                  have ie2193 : k2150.toInt = (fZ H2187 0 8).toInt := by rw [← e2193]
                  have ie2194 : v2186.toInt = (fZ H2187 0 10).toInt := by rw [← e2194]
                  refine g_aload_n rfl ?_
                  refine g_aload_n rfl ?_
                  refine g_invvi hIH2187 sm_0 rfl rfl rfl rfl (s_160 H2187 hIH2187 hJH2187) (fun v2198 H2196 r2197 => ?_)
                  obtain rfl := r2197
                  refine g_pfi hIH2187 sm_0 rfl (gz_any _) (fun H2199 eH2199 hIH2199 => ?_)
                  have hJH2199 : JN H2199 := JN_sF eH2199 hJH2187
                  have e2200 : k0_2 = fZ H2199 0 2 := by rw [eH2199, fZ_sF_ne (by decide)]; exact e2188
                  have e2201 : k0_13 = fZ H2199 0 13 := by rw [eH2199, fZ_sF_ne (by decide)]; exact e2189
                  have e2202 : k0_7 = fZ H2199 0 7 := by rw [eH2199, fZ_sF_ne (by decide)]; exact e2190
                  have e2203 : k0_19 = fZ H2199 0 19 := by rw [eH2199, fZ_sF_ne (by decide)]; exact e2191
                  have e2204 : k0_8 = fZ H2199 0 9 := by rw [eH2199, fZ_sF_ne (by decide)]; exact e2192
                  have e2205 : k2150 = fZ H2199 0 8 := by rw [eH2199, fZ_sF_ne (by decide)]; exact e2193
                  have e2206 : v2186 = fZ H2199 0 10 := by rw [eH2199, fZ_sF_ne (by decide)]; exact e2194
                  have m2207 : ∀ a i, aZ H2199 a i = aZ H a i := fun a i => (by rw [eH2199, aZ_sF] : aZ H2199 a i = aZ H2187 a i).trans (m2195 a i)
                  have ie2202 : k0_7.toInt = (fZ H2199 0 7).toInt := by rw [← e2202]
                  have ie2204 : k0_8.toInt = (fZ H2199 0 9).toInt := by rw [← e2204]
                  have ie2205 : k2150.toInt = (fZ H2199 0 8).toInt := by rw [← e2205]
                  have ie2206 : v2186.toInt = (fZ H2199 0 10).toInt := by rw [← e2206]
                  refine g_goto ?_
                  exact g_ret ⟨rfl, hIH2199, hJH2199, (e2200.symm.trans ek0_2), (e2201.symm.trans ek0_13), (e2202.symm.trans ek0_7), (e2203.symm.trans ek0_19), m2207, (by omega), (by omega)⟩
              · refine g_aload_n rfl ?_
                refine g_gfk hIH2142 sm_0 rfl ek2150 ?_
                refine g_aload_n rfl ?_
                refine g_gfk hIH2142 sm_0 rfl e2147 ?_
                refine g_isub (by omega) (fun v2208 ev2208 => ?_)
                refine g_bipush (by decide) (fun v2209 kv2209 => ?_)
                refine g_if2_ge (fun c2210 => ?_) (fun c2210 => ?_)
                · refine g_aload_n rfl ?_
                  refine g_dup rfl ?_
                  refine g_gfk hIH2142 sm_0 rfl ek2150 ?_
                  refine g_iconst (by decide) (fun v2211 kv2211 => ?_)
                  refine g_iadd (by omega) (fun v2212 ev2212 => ?_)
                  refine g_pfi hIH2142 sm_0 rfl (by omega) (fun H2213 eH2213 hIH2213 => ?_)
                  have hJH2213 : JN H2213 := JN_sF eH2213 hJH2142
                  have e2214 : k0_2 = fZ H2213 0 2 := by rw [eH2213, fZ_sF_ne (by decide)]; exact e2143
                  have e2215 : k0_13 = fZ H2213 0 13 := by rw [eH2213, fZ_sF_ne (by decide)]; exact e2144
                  have e2216 : k0_7 = fZ H2213 0 7 := by rw [eH2213, fZ_sF_ne (by decide)]; exact e2145
                  have e2217 : k0_19 = fZ H2213 0 19 := by rw [eH2213, fZ_sF_ne (by decide)]; exact e2146
                  have e2218 : k0_8 = fZ H2213 0 9 := by rw [eH2213, fZ_sF_ne (by decide)]; exact e2147
                  have e2219 : v2212 = fZ H2213 0 8 := by rw [eH2213, fZ_sF_eq hIH2142 sm_0 rfl]
                  have m2220 : ∀ a i, aZ H2213 a i = aZ H a i := fun a i => (by rw [eH2213, aZ_sF] : aZ H2213 a i = aZ H2142 a i).trans (m2148 a i)
                  have jj2221_10 : (fZ H2213 0 10).toInt = (fZ H2142 0 10).toInt := by rw [eH2213, fZ_sF_ne (by decide)]
                  have ie2216 : k0_7.toInt = (fZ H2213 0 7).toInt := by rw [← e2216]
                  have ie2218 : k0_8.toInt = (fZ H2213 0 9).toInt := by rw [← e2218]
                  have ie2219 : v2212.toInt = (fZ H2213 0 8).toInt := by rw [← e2219]
                  refine g_goto ?_
                  exact ihL2149 H2213 hIH2213 hJH2213 e2214 e2215 e2216 e2217 e2218 m2220 (by rw [← e2219, ← e2216]; omega) (by omega) (by omega)
                · refine g_aload_n rfl ?_
                  refine g_aload_n rfl ?_
                  refine g_gfi hIH2142 sm_0 rfl (fun v2222 ev2222 lv2222 uv2222 => ?_)
                  refine g_iconst (by decide) (fun v2223 kv2223 => ?_)
                  refine g_ishl' (fun v2224 ov2224 => ?_)
                  refine g_aload_n rfl ?_
                  refine g_invvi hIH2142 sm_0 rfl rfl rfl rfl (s_156 H2142 hIH2142 hJH2142) (fun v2227 H2225 r2226 => ?_)
                  obtain ⟨rfl, bv2227, p2228⟩ := r2226
                  have nv2227 : (v2227.toInt = -1 ∧ k0_7.toInt ≤ k2150.toInt) ∨ (k2150.toInt < k0_7.toInt ∧ v2227.toInt = (aZ H 1 k2150.toInt.toNat).toInt) := by rw [ek2150, e2145, ← m2148]; exact p2228
                  refine g_bipush (by decide) (fun v2229 kv2229 => ?_)
                  refine g_isub (by omega) (fun v2230 ev2230 => ?_)
                  refine g_iconst (by decide) (fun v2231 kv2231 => ?_)
                  refine g_iadd (by omega) (fun v2232 ev2232 => ?_)
                  refine g_ior' (fun v2233 ov2233 => ?_)
                  refine g_pfi hIH2142 sm_0 rfl (gz_any _) (fun H2234 eH2234 hIH2234 => ?_)
                  have hJH2234 : JN H2234 := JN_sF eH2234 hJH2142
                  have e2235 : k0_2 = fZ H2234 0 2 := by rw [eH2234, fZ_sF_ne (by decide)]; exact e2143
                  have e2236 : k0_13 = fZ H2234 0 13 := by rw [eH2234, fZ_sF_ne (by decide)]; exact e2144
                  have e2237 : k0_7 = fZ H2234 0 7 := by rw [eH2234, fZ_sF_ne (by decide)]; exact e2145
                  have e2238 : k0_19 = fZ H2234 0 19 := by rw [eH2234, fZ_sF_ne (by decide)]; exact e2146
                  have e2239 : k0_8 = fZ H2234 0 9 := by rw [eH2234, fZ_sF_ne (by decide)]; exact e2147
                  have e2240 : k2150 = fZ H2234 0 8 := by rw [eH2234, fZ_sF_ne (by decide)]; exact ek2150
                  have m2241 : ∀ a i, aZ H2234 a i = aZ H a i := fun a i => (by rw [eH2234, aZ_sF] : aZ H2234 a i = aZ H2142 a i).trans (m2148 a i)
                  have jj2242_10 : (fZ H2234 0 10).toInt = (fZ H2142 0 10).toInt := by rw [eH2234, fZ_sF_ne (by decide)]
                  have ie2237 : k0_7.toInt = (fZ H2234 0 7).toInt := by rw [← e2237]
                  have ie2239 : k0_8.toInt = (fZ H2234 0 9).toInt := by rw [← e2239]
                  have ie2240 : k2150.toInt = (fZ H2234 0 8).toInt := by rw [← e2240]
                  refine g_nop ?_
                  refine g_aload_n rfl ?_
                  refine g_dup rfl ?_
                  refine g_gfk hIH2234 sm_0 rfl e2240 ?_
                  refine g_iconst (by decide) (fun v2243 kv2243 => ?_)
                  refine g_iadd (by omega) (fun v2244 ev2244 => ?_)
                  refine g_pfi hIH2234 sm_0 rfl (by omega) (fun H2245 eH2245 hIH2245 => ?_)
                  have hJH2245 : JN H2245 := JN_sF eH2245 hJH2234
                  have e2246 : k0_2 = fZ H2245 0 2 := by rw [eH2245, fZ_sF_ne (by decide)]; exact e2235
                  have e2247 : k0_13 = fZ H2245 0 13 := by rw [eH2245, fZ_sF_ne (by decide)]; exact e2236
                  have e2248 : k0_7 = fZ H2245 0 7 := by rw [eH2245, fZ_sF_ne (by decide)]; exact e2237
                  have e2249 : k0_19 = fZ H2245 0 19 := by rw [eH2245, fZ_sF_ne (by decide)]; exact e2238
                  have e2250 : k0_8 = fZ H2245 0 9 := by rw [eH2245, fZ_sF_ne (by decide)]; exact e2239
                  have e2251 : v2244 = fZ H2245 0 8 := by rw [eH2245, fZ_sF_eq hIH2234 sm_0 rfl]
                  have m2252 : ∀ a i, aZ H2245 a i = aZ H a i := fun a i => (by rw [eH2245, aZ_sF] : aZ H2245 a i = aZ H2234 a i).trans (m2241 a i)
                  have jj2253_10 : (fZ H2245 0 10).toInt = (fZ H2234 0 10).toInt := by rw [eH2245, fZ_sF_ne (by decide)]
                  have ie2248 : k0_7.toInt = (fZ H2245 0 7).toInt := by rw [← e2248]
                  have ie2250 : k0_8.toInt = (fZ H2245 0 9).toInt := by rw [← e2250]
                  have ie2251 : v2244.toInt = (fZ H2245 0 8).toInt := by rw [← e2251]
                  refine g_goto ?_
                  exact ihL2149 H2245 hIH2245 hJH2245 e2246 e2247 e2248 e2249 e2250 m2252 (by rw [← e2251, ← e2248]; omega) (by omega) (by omega)
          exact L2149 _ H2133 hIH2133 hJH2133 e2134 e2135 e2136 e2137 e2139 m2140 (by rw [← e2138, ← e2136]; omega) (by omega) (Nat.lt_succ_self _)
      · refine g_aload_n rfl ?_
        refine g_iconst (by decide) (fun v2254 kv2254 => ?_)
        refine g_pfi hIH1967 sm_0 rfl (by omega) (fun H2255 eH2255 hIH2255 => ?_)
        have hJH2255 : JN H2255 := JN_sF eH2255 hJH1967
        have e2256 : k0_2 = fZ H2255 0 2 := by rw [eH2255, fZ_sF_ne (by decide)]; exact e1968
        have e2257 : k0_13 = fZ H2255 0 13 := by rw [eH2255, fZ_sF_ne (by decide)]; exact e1969
        have e2258 : k0_7 = fZ H2255 0 7 := by rw [eH2255, fZ_sF_ne (by decide)]; exact e1970
        have e2259 : k0_19 = fZ H2255 0 19 := by rw [eH2255, fZ_sF_ne (by decide)]; exact e1971
        have e2260 : k0_8 = fZ H2255 0 8 := by rw [eH2255, fZ_sF_ne (by decide)]; exact e1972
        have e2261 : k0_8 = fZ H2255 0 9 := by rw [eH2255, fZ_sF_ne (by decide)]; exact e1973
        have e2262 : v2254 = fZ H2255 0 10 := by rw [eH2255, fZ_sF_eq hIH1967 sm_0 rfl]
        have m2263 : ∀ a i, aZ H2255 a i = aZ H a i := fun a i => (by rw [eH2255, aZ_sF] : aZ H2255 a i = aZ H1967 a i).trans (m1974 a i)
        have ie2258 : k0_7.toInt = (fZ H2255 0 7).toInt := by rw [← e2258]
        have ie2260 : k0_8.toInt = (fZ H2255 0 8).toInt := by rw [← e2260]
        have ie2261 : k0_8.toInt = (fZ H2255 0 9).toInt := by rw [← e2261]
        have ie2262 : v2254.toInt = (fZ H2255 0 10).toInt := by rw [← e2262]
        refine g_goto ?_
        exact g_ret ⟨rfl, hIH2255, hJH2255, (e2256.symm.trans ek0_2), (e2257.symm.trans ek0_13), (e2258.symm.trans ek0_7), (e2259.symm.trans ek0_19), m2263, (by omega), (by omega)⟩
    · refine g_nop ?_
      refine g_aload_n rfl ?_
      refine g_dup rfl ?_
      refine g_gfk hI sm_0 rfl ek0_8 ?_
      refine g_iconst (by decide) (fun v2264 kv2264 => ?_)
      refine g_iadd (by omega) (fun v2265 ev2265 => ?_)
      refine g_pfi hI sm_0 rfl (by omega) (fun H2266 eH2266 hIH2266 => ?_)
      have hJH2266 : JN H2266 := JN_sF eH2266 hJ
      have e2267 : k0_2 = fZ H2266 0 2 := by rw [eH2266, fZ_sF_ne (by decide)]; exact ek0_2
      have e2268 : k0_13 = fZ H2266 0 13 := by rw [eH2266, fZ_sF_ne (by decide)]; exact ek0_13
      have e2269 : k0_7 = fZ H2266 0 7 := by rw [eH2266, fZ_sF_ne (by decide)]; exact ek0_7
      have e2270 : k0_19 = fZ H2266 0 19 := by rw [eH2266, fZ_sF_ne (by decide)]; exact ek0_19
      have e2271 : v2265 = fZ H2266 0 8 := by rw [eH2266, fZ_sF_eq hI sm_0 rfl]
      have m2272 : ∀ a i, aZ H2266 a i = aZ H a i := fun a i => (by rw [eH2266, aZ_sF] : aZ H2266 a i = aZ H a i).trans (mkall a i)
      have jj2273_10 : (fZ H2266 0 10).toInt = (fZ H 0 10).toInt := by rw [eH2266, fZ_sF_ne (by decide)]
      have jj2274_9 : (fZ H2266 0 9).toInt = (fZ H 0 9).toInt := by rw [eH2266, fZ_sF_ne (by decide)]
      have ie2269 : k0_7.toInt = (fZ H2266 0 7).toInt := by rw [← e2269]
      have ie2271 : v2265.toInt = (fZ H2266 0 8).toInt := by rw [← e2271]
      refine g_goto ?_
      have L2281 : ∀ (N : Nat) (H2275 : mzH), gI SM H2275 → JN H2275 → k0_2 = fZ H2275 0 2 → k0_13 = fZ H2275 0 13 → k0_7 = fZ H2275 0 7 → k0_19 = fZ H2275 0 19 → (∀ a i, aZ H2275 a i = aZ H a i) → (fZ H 0 8).toInt ≤ (fZ H2275 0 8).toInt → (900 - (fZ H2275 0 8).toInt).toNat < N → gG 2 zB_159 (mzBlk zB_159 0) [(0, .ref 0)] [] H2275 0 0 (gRv (fun H' => gI SM H' ∧ JN H' ∧ fZ H' 0 2 = fZ H 0 2 ∧ fZ H' 0 13 = fZ H 0 13 ∧ fZ H' 0 7 = fZ H 0 7 ∧ fZ H' 0 19 = fZ H 0 19 ∧ (∀ a i, aZ H' a i = aZ H a i) ∧ (fZ H 0 8).toInt ≤ (fZ H' 0 8).toInt ∧ ((fZ H' 0 10).toInt = 3 ∨ (fZ H 0 8).toInt < (fZ H' 0 8).toInt))) := by
        intro N
        induction N with
        | zero => intro H2275 hIH2275 hJH2275 e2276 e2277 e2278 e2279 m2280 q2 hmL2281; exact absurd hmL2281 (Nat.not_lt_zero _)
        | succ N ihL2281 =>
          intro H2275 hIH2275 hJH2275 e2276 e2277 e2278 e2279 m2280 q2 hmL2281
          obtain ⟨k2282, ek2282⟩ : ∃ z, z = fZ H2275 0 8 := ⟨_, rfl⟩
          have ik2282 : k2282.toInt = (fZ H2275 0 8).toInt := by rw [← ek2282]
          have bk2282 : 0 ≤ k2282.toInt ∧ k2282.toInt ≤ 900 := by rw [ek2282]; exact fZ_of hIH2275 sm_0 rfl
          refine g_aload_n rfl ?_
          refine g_invvi hIH2275 sm_0 rfl rfl rfl rfl (s_156 H2275 hIH2275 hJH2275) (fun v2285 H2283 r2284 => ?_)
          obtain ⟨rfl, bv2285, p2286⟩ := r2284
          have nv2285 : (v2285.toInt = -1 ∧ k0_7.toInt ≤ k2282.toInt) ∨ (k2282.toInt < k0_7.toInt ∧ v2285.toInt = (aZ H 1 k2282.toInt.toNat).toInt) := by rw [ek2282, e2278, ← m2280]; exact p2286
          refine g_bipush (by decide) (fun v2287 kv2287 => ?_)
          refine g_if2_eq (fun c2288 => ?_) (fun c2288 => ?_)
          · refine g_aload_n rfl ?_
            refine g_dup rfl ?_
            refine g_gfk hIH2275 sm_0 rfl ek2282 ?_
            refine g_iconst (by decide) (fun v2289 kv2289 => ?_)
            refine g_iadd (by omega) (fun v2290 ev2290 => ?_)
            refine g_pfi hIH2275 sm_0 rfl (by omega) (fun H2291 eH2291 hIH2291 => ?_)
            have hJH2291 : JN H2291 := JN_sF eH2291 hJH2275
            have e2292 : k0_2 = fZ H2291 0 2 := by rw [eH2291, fZ_sF_ne (by decide)]; exact e2276
            have e2293 : k0_13 = fZ H2291 0 13 := by rw [eH2291, fZ_sF_ne (by decide)]; exact e2277
            have e2294 : k0_7 = fZ H2291 0 7 := by rw [eH2291, fZ_sF_ne (by decide)]; exact e2278
            have e2295 : k0_19 = fZ H2291 0 19 := by rw [eH2291, fZ_sF_ne (by decide)]; exact e2279
            have e2296 : v2290 = fZ H2291 0 8 := by rw [eH2291, fZ_sF_eq hIH2275 sm_0 rfl]
            have m2297 : ∀ a i, aZ H2291 a i = aZ H a i := fun a i => (by rw [eH2291, aZ_sF] : aZ H2291 a i = aZ H2275 a i).trans (m2280 a i)
            have jj2298_10 : (fZ H2291 0 10).toInt = (fZ H2275 0 10).toInt := by rw [eH2291, fZ_sF_ne (by decide)]
            have jj2299_9 : (fZ H2291 0 9).toInt = (fZ H2275 0 9).toInt := by rw [eH2291, fZ_sF_ne (by decide)]
            have ie2294 : k0_7.toInt = (fZ H2291 0 7).toInt := by rw [← e2294]
            have ie2296 : v2290.toInt = (fZ H2291 0 8).toInt := by rw [← e2296]
            refine g_goto ?_
            exact ihL2281 H2291 hIH2291 hJH2291 e2292 e2293 e2294 e2295 m2297 (by omega) (by omega)
          · refine g_aload_n rfl ?_
            refine g_invvi hIH2275 sm_0 rfl rfl rfl rfl (s_156 H2275 hIH2275 hJH2275) (fun v2302 H2300 r2301 => ?_)
            obtain ⟨rfl, bv2302, p2303⟩ := r2301
            have nv2302 : (v2302.toInt = -1 ∧ k0_7.toInt ≤ k2282.toInt) ∨ (k2282.toInt < k0_7.toInt ∧ v2302.toInt = (aZ H 1 k2282.toInt.toNat).toInt) := by rw [ek2282, e2278, ← m2280]; exact p2303
            refine g_bipush (by decide) (fun v2304 kv2304 => ?_)
            refine g_if2_ne (fun c2305 => ?_) (fun c2305 => ?_)
            · refine g_aload_n rfl ?_
              refine g_aload_n rfl ?_
              refine g_gfk hIH2275 sm_0 rfl ek2282 ?_
              refine g_pfi hIH2275 sm_0 rfl (by omega) (fun H2306 eH2306 hIH2306 => ?_)
              have hJH2306 : JN H2306 := JN_sF eH2306 hJH2275
              have e2307 : k0_2 = fZ H2306 0 2 := by rw [eH2306, fZ_sF_ne (by decide)]; exact e2276
              have e2308 : k0_13 = fZ H2306 0 13 := by rw [eH2306, fZ_sF_ne (by decide)]; exact e2277
              have e2309 : k0_7 = fZ H2306 0 7 := by rw [eH2306, fZ_sF_ne (by decide)]; exact e2278
              have e2310 : k0_19 = fZ H2306 0 19 := by rw [eH2306, fZ_sF_ne (by decide)]; exact e2279
              have e2311 : k2282 = fZ H2306 0 8 := by rw [eH2306, fZ_sF_ne (by decide)]; exact ek2282
              have e2312 : k2282 = fZ H2306 0 9 := by rw [eH2306, fZ_sF_eq hIH2275 sm_0 rfl]
              have m2313 : ∀ a i, aZ H2306 a i = aZ H a i := fun a i => (by rw [eH2306, aZ_sF] : aZ H2306 a i = aZ H2275 a i).trans (m2280 a i)
              have jj2314_10 : (fZ H2306 0 10).toInt = (fZ H2275 0 10).toInt := by rw [eH2306, fZ_sF_ne (by decide)]
              have ie2309 : k0_7.toInt = (fZ H2306 0 7).toInt := by rw [← e2309]
              have ie2311 : k2282.toInt = (fZ H2306 0 8).toInt := by rw [← e2311]
              have ie2312 : k2282.toInt = (fZ H2306 0 9).toInt := by rw [← e2312]
              refine g_aload_n rfl ?_
              refine g_invvi hIH2306 sm_0 rfl rfl rfl rfl (s_156 H2306 hIH2306 hJH2306) (fun v2317 H2315 r2316 => ?_)
              obtain ⟨rfl, bv2317, p2318⟩ := r2316
              have nv2317 : (v2317.toInt = -1 ∧ k0_7.toInt ≤ k2282.toInt) ∨ (k2282.toInt < k0_7.toInt ∧ v2317.toInt = (aZ H 1 k2282.toInt.toNat).toInt) := by rw [e2311, e2309, ← m2313]; exact p2318
              refine g_istore_n (l' := [(0, .ref 0), (1, .int v2317)]) rfl rfl ?_
              refine g_iload_n rfl ?_
              refine g_iconst (by decide) (fun v2319 kv2319 => ?_)
              refine g_if2_ne (fun c2320 => ?_) (fun c2320 => ?_)
              · refine g_iload_n rfl ?_
                refine g_invti rfl rfl rfl (s_157 v2317 H2306 hIH2306 hJH2306) (fun v2323 H2321 r2322 => ?_)
                obtain ⟨rfl, bv2323, p2324, p2325⟩ := r2322
                refine g_if_eq (fun c2326 => ?_) (fun c2326 => ?_)
                · refine g_iload_n rfl ?_
                  refine g_invti rfl rfl rfl (s_158 v2317 H2306 hIH2306 hJH2306) (fun v2329 H2327 r2328 => ?_)
                  obtain ⟨rfl, bv2329, p2330, p2331⟩ := r2328
                  refine g_if_eq (fun c2332 => ?_) (fun c2332 => ?_)
                  · refine g_aload_n rfl ?_
                    refine g_iload_n rfl ?_
                    refine g_bipush (by decide) (fun v2333 kv2333 => ?_)
                    refine g_if2_ne (fun c2334 => ?_) (fun c2334 => ?_)
                    · refine g_iconst (by decide) (fun v2335 kv2335 => ?_)
                      refine g_nop ?_
                      refine g_pfi hIH2306 sm_0 rfl (by omega) (fun H2336 eH2336 hIH2336 => ?_)
                      have hJH2336 : JN H2336 := JN_sF eH2336 hJH2306
                      have e2337 : k0_2 = fZ H2336 0 2 := by rw [eH2336, fZ_sF_ne (by decide)]; exact e2307
                      have e2338 : k0_13 = fZ H2336 0 13 := by rw [eH2336, fZ_sF_ne (by decide)]; exact e2308
                      have e2339 : k0_7 = fZ H2336 0 7 := by rw [eH2336, fZ_sF_ne (by decide)]; exact e2309
                      have e2340 : k0_19 = fZ H2336 0 19 := by rw [eH2336, fZ_sF_ne (by decide)]; exact e2310
                      have e2341 : k2282 = fZ H2336 0 8 := by rw [eH2336, fZ_sF_ne (by decide)]; exact e2311
                      have e2342 : k2282 = fZ H2336 0 9 := by rw [eH2336, fZ_sF_ne (by decide)]; exact e2312
                      have e2343 : v2335 = fZ H2336 0 10 := by rw [eH2336, fZ_sF_eq hIH2306 sm_0 rfl]
                      have m2344 : ∀ a i, aZ H2336 a i = aZ H a i := fun a i => (by rw [eH2336, aZ_sF] : aZ H2336 a i = aZ H2306 a i).trans (m2313 a i)
                      have ie2339 : k0_7.toInt = (fZ H2336 0 7).toInt := by rw [← e2339]
                      have ie2341 : k2282.toInt = (fZ H2336 0 8).toInt := by rw [← e2341]
                      have ie2342 : k2282.toInt = (fZ H2336 0 9).toInt := by rw [← e2342]
                      have ie2343 : v2335.toInt = (fZ H2336 0 10).toInt := by rw [← e2343]
                      refine g_aload_n rfl ?_
                      refine g_dup rfl ?_
                      refine g_gfk hIH2336 sm_0 rfl e2341 ?_
                      refine g_iconst (by decide) (fun v2345 kv2345 => ?_)
                      refine g_iadd (by omega) (fun v2346 ev2346 => ?_)
                      refine g_pfi hIH2336 sm_0 rfl (by omega) (fun H2347 eH2347 hIH2347 => ?_)
                      have hJH2347 : JN H2347 := JN_sF eH2347 hJH2336
                      have e2348 : k0_2 = fZ H2347 0 2 := by rw [eH2347, fZ_sF_ne (by decide)]; exact e2337
                      have e2349 : k0_13 = fZ H2347 0 13 := by rw [eH2347, fZ_sF_ne (by decide)]; exact e2338
                      have e2350 : k0_7 = fZ H2347 0 7 := by rw [eH2347, fZ_sF_ne (by decide)]; exact e2339
                      have e2351 : k0_19 = fZ H2347 0 19 := by rw [eH2347, fZ_sF_ne (by decide)]; exact e2340
                      have e2352 : k2282 = fZ H2347 0 9 := by rw [eH2347, fZ_sF_ne (by decide)]; exact e2342
                      have e2353 : v2335 = fZ H2347 0 10 := by rw [eH2347, fZ_sF_ne (by decide)]; exact e2343
                      have e2354 : v2346 = fZ H2347 0 8 := by rw [eH2347, fZ_sF_eq hIH2336 sm_0 rfl]
                      have m2355 : ∀ a i, aZ H2347 a i = aZ H a i := fun a i => (by rw [eH2347, aZ_sF] : aZ H2347 a i = aZ H2336 a i).trans (m2344 a i)
                      have ie2350 : k0_7.toInt = (fZ H2347 0 7).toInt := by rw [← e2350]
                      have ie2352 : k2282.toInt = (fZ H2347 0 9).toInt := by rw [← e2352]
                      have ie2353 : v2335.toInt = (fZ H2347 0 10).toInt := by rw [← e2353]
                      have ie2354 : v2346.toInt = (fZ H2347 0 8).toInt := by rw [← e2354]
                      refine g_nop ?_
                      exact g_ret ⟨rfl, hIH2347, hJH2347, (e2348.symm.trans ek0_2), (e2349.symm.trans ek0_13), (e2350.symm.trans ek0_7), (e2351.symm.trans ek0_19), m2355, (by omega), (by omega)⟩
                    · refine g_iconst (by decide) (fun v2356 kv2356 => ?_)
                      refine g_goto ?_
                      refine g_pfi hIH2306 sm_0 rfl (by omega) (fun H2357 eH2357 hIH2357 => ?_)
                      have hJH2357 : JN H2357 := JN_sF eH2357 hJH2306
                      have e2358 : k0_2 = fZ H2357 0 2 := by rw [eH2357, fZ_sF_ne (by decide)]; exact e2307
                      have e2359 : k0_13 = fZ H2357 0 13 := by rw [eH2357, fZ_sF_ne (by decide)]; exact e2308
                      have e2360 : k0_7 = fZ H2357 0 7 := by rw [eH2357, fZ_sF_ne (by decide)]; exact e2309
                      have e2361 : k0_19 = fZ H2357 0 19 := by rw [eH2357, fZ_sF_ne (by decide)]; exact e2310
                      have e2362 : k2282 = fZ H2357 0 8 := by rw [eH2357, fZ_sF_ne (by decide)]; exact e2311
                      have e2363 : k2282 = fZ H2357 0 9 := by rw [eH2357, fZ_sF_ne (by decide)]; exact e2312
                      have e2364 : v2356 = fZ H2357 0 10 := by rw [eH2357, fZ_sF_eq hIH2306 sm_0 rfl]
                      have m2365 : ∀ a i, aZ H2357 a i = aZ H a i := fun a i => (by rw [eH2357, aZ_sF] : aZ H2357 a i = aZ H2306 a i).trans (m2313 a i)
                      have ie2360 : k0_7.toInt = (fZ H2357 0 7).toInt := by rw [← e2360]
                      have ie2362 : k2282.toInt = (fZ H2357 0 8).toInt := by rw [← e2362]
                      have ie2363 : k2282.toInt = (fZ H2357 0 9).toInt := by rw [← e2363]
                      have ie2364 : v2356.toInt = (fZ H2357 0 10).toInt := by rw [← e2364]
                      refine g_aload_n rfl ?_
                      refine g_dup rfl ?_
                      refine g_gfk hIH2357 sm_0 rfl e2362 ?_
                      refine g_iconst (by decide) (fun v2366 kv2366 => ?_)
                      refine g_iadd (by omega) (fun v2367 ev2367 => ?_)
                      refine g_pfi hIH2357 sm_0 rfl (by omega) (fun H2368 eH2368 hIH2368 => ?_)
                      have hJH2368 : JN H2368 := JN_sF eH2368 hJH2357
                      have e2369 : k0_2 = fZ H2368 0 2 := by rw [eH2368, fZ_sF_ne (by decide)]; exact e2358
                      have e2370 : k0_13 = fZ H2368 0 13 := by rw [eH2368, fZ_sF_ne (by decide)]; exact e2359
                      have e2371 : k0_7 = fZ H2368 0 7 := by rw [eH2368, fZ_sF_ne (by decide)]; exact e2360
                      have e2372 : k0_19 = fZ H2368 0 19 := by rw [eH2368, fZ_sF_ne (by decide)]; exact e2361
                      have e2373 : k2282 = fZ H2368 0 9 := by rw [eH2368, fZ_sF_ne (by decide)]; exact e2363
                      have e2374 : v2356 = fZ H2368 0 10 := by rw [eH2368, fZ_sF_ne (by decide)]; exact e2364
                      have e2375 : v2367 = fZ H2368 0 8 := by rw [eH2368, fZ_sF_eq hIH2357 sm_0 rfl]
                      have m2376 : ∀ a i, aZ H2368 a i = aZ H a i := fun a i => (by rw [eH2368, aZ_sF] : aZ H2368 a i = aZ H2357 a i).trans (m2365 a i)
                      have ie2371 : k0_7.toInt = (fZ H2368 0 7).toInt := by rw [← e2371]
                      have ie2373 : k2282.toInt = (fZ H2368 0 9).toInt := by rw [← e2373]
                      have ie2374 : v2356.toInt = (fZ H2368 0 10).toInt := by rw [← e2374]
                      have ie2375 : v2367.toInt = (fZ H2368 0 8).toInt := by rw [← e2375]
                      refine g_nop ?_
                      exact g_ret ⟨rfl, hIH2368, hJH2368, (e2369.symm.trans ek0_2), (e2370.symm.trans ek0_13), (e2371.symm.trans ek0_7), (e2372.symm.trans ek0_19), m2376, (by omega), (by omega)⟩
                  · refine g_aload_n rfl ?_
                    refine g_iconst (by decide) (fun v2377 kv2377 => ?_)
                    refine g_pfi hIH2306 sm_0 rfl (by omega) (fun H2378 eH2378 hIH2378 => ?_)
                    have hJH2378 : JN H2378 := JN_sF eH2378 hJH2306
                    have e2379 : k0_2 = fZ H2378 0 2 := by rw [eH2378, fZ_sF_ne (by decide)]; exact e2307
                    have e2380 : k0_13 = fZ H2378 0 13 := by rw [eH2378, fZ_sF_ne (by decide)]; exact e2308
                    have e2381 : k0_7 = fZ H2378 0 7 := by rw [eH2378, fZ_sF_ne (by decide)]; exact e2309
                    have e2382 : k0_19 = fZ H2378 0 19 := by rw [eH2378, fZ_sF_ne (by decide)]; exact e2310
                    have e2383 : k2282 = fZ H2378 0 8 := by rw [eH2378, fZ_sF_ne (by decide)]; exact e2311
                    have e2384 : k2282 = fZ H2378 0 9 := by rw [eH2378, fZ_sF_ne (by decide)]; exact e2312
                    have e2385 : v2377 = fZ H2378 0 10 := by rw [eH2378, fZ_sF_eq hIH2306 sm_0 rfl]
                    have m2386 : ∀ a i, aZ H2378 a i = aZ H a i := fun a i => (by rw [eH2378, aZ_sF] : aZ H2378 a i = aZ H2306 a i).trans (m2313 a i)
                    have ie2381 : k0_7.toInt = (fZ H2378 0 7).toInt := by rw [← e2381]
                    have ie2383 : k2282.toInt = (fZ H2378 0 8).toInt := by rw [← e2383]
                    have ie2384 : k2282.toInt = (fZ H2378 0 9).toInt := by rw [← e2384]
                    have ie2385 : v2377.toInt = (fZ H2378 0 10).toInt := by rw [← e2385]
                    refine g_aload_n rfl ?_
                    refine g_iconst (by decide) (fun v2387 kv2387 => ?_)
                    refine g_pfi hIH2378 sm_0 rfl (gz_any _) (fun H2388 eH2388 hIH2388 => ?_)
                    have hJH2388 : JN H2388 := JN_sF eH2388 hJH2378
                    have e2389 : k0_2 = fZ H2388 0 2 := by rw [eH2388, fZ_sF_ne (by decide)]; exact e2379
                    have e2390 : k0_13 = fZ H2388 0 13 := by rw [eH2388, fZ_sF_ne (by decide)]; exact e2380
                    have e2391 : k0_7 = fZ H2388 0 7 := by rw [eH2388, fZ_sF_ne (by decide)]; exact e2381
                    have e2392 : k0_19 = fZ H2388 0 19 := by rw [eH2388, fZ_sF_ne (by decide)]; exact e2382
                    have e2393 : k2282 = fZ H2388 0 8 := by rw [eH2388, fZ_sF_ne (by decide)]; exact e2383
                    have e2394 : k2282 = fZ H2388 0 9 := by rw [eH2388, fZ_sF_ne (by decide)]; exact e2384
                    have e2395 : v2377 = fZ H2388 0 10 := by rw [eH2388, fZ_sF_ne (by decide)]; exact e2385
                    have m2396 : ∀ a i, aZ H2388 a i = aZ H a i := fun a i => (by rw [eH2388, aZ_sF] : aZ H2388 a i = aZ H2378 a i).trans (m2386 a i)
                    have ie2391 : k0_7.toInt = (fZ H2388 0 7).toInt := by rw [← e2391]
                    have ie2393 : k2282.toInt = (fZ H2388 0 8).toInt := by rw [← e2393]
                    have ie2394 : k2282.toInt = (fZ H2388 0 9).toInt := by rw [← e2394]
                    have ie2395 : v2377.toInt = (fZ H2388 0 10).toInt := by rw [← e2395]
                    refine g_nop ?_
                    have L2405 : ∀ (N : Nat) (H2397 : mzH), gI SM H2397 → JN H2397 → k0_2 = fZ H2397 0 2 → k0_13 = fZ H2397 0 13 → k0_7 = fZ H2397 0 7 → k0_19 = fZ H2397 0 19 → k2282 = fZ H2397 0 9 → v2377 = fZ H2397 0 10 → (∀ a i, aZ H2397 a i = aZ H a i) → ((fZ H 0 8).toInt < (fZ H2397 0 8).toInt ∨ ((fZ H2397 0 8).toInt < (fZ H2397 0 7).toInt ∧ 48 ≤ (aZ H 1 (fZ H2397 0 8).toInt.toNat).toInt ∧ (aZ H 1 (fZ H2397 0 8).toInt.toNat).toInt ≤ 57)) → (fZ H 0 8).toInt ≤ (fZ H2397 0 8).toInt → (900 - (fZ H2397 0 8).toInt).toNat < N → gG 2 zB_159 (mzBlk zB_159 10) [(0, .ref 0), (1, .int v2317)] [] H2397 0 0 (gRv (fun H' => gI SM H' ∧ JN H' ∧ fZ H' 0 2 = fZ H 0 2 ∧ fZ H' 0 13 = fZ H 0 13 ∧ fZ H' 0 7 = fZ H 0 7 ∧ fZ H' 0 19 = fZ H 0 19 ∧ (∀ a i, aZ H' a i = aZ H a i) ∧ (fZ H 0 8).toInt ≤ (fZ H' 0 8).toInt ∧ ((fZ H' 0 10).toInt = 3 ∨ (fZ H 0 8).toInt < (fZ H' 0 8).toInt))) := by
                      intro N
                      induction N with
                      | zero => intro H2397 hIH2397 hJH2397 e2398 e2399 e2400 e2401 e2402 e2403 m2404 q1 q2 hmL2405; exact absurd hmL2405 (Nat.not_lt_zero _)
                      | succ N ihL2405 =>
                        intro H2397 hIH2397 hJH2397 e2398 e2399 e2400 e2401 e2402 e2403 m2404 q1 q2 hmL2405
                        obtain ⟨k2406, ek2406⟩ : ∃ z, z = fZ H2397 0 8 := ⟨_, rfl⟩
                        have ik2406 : k2406.toInt = (fZ H2397 0 8).toInt := by rw [← ek2406]
                        have bk2406 : 0 ≤ k2406.toInt ∧ k2406.toInt ≤ 900 := by rw [ek2406]; exact fZ_of hIH2397 sm_0 rfl
                        rw [← ek2406, ← e2400] at q1
                        refine g_aload_n rfl ?_
                        refine g_invvi hIH2397 sm_0 rfl rfl rfl rfl (s_156 H2397 hIH2397 hJH2397) (fun v2409 H2407 r2408 => ?_)
                        obtain ⟨rfl, bv2409, p2410⟩ := r2408
                        have nv2409 : (v2409.toInt = -1 ∧ k0_7.toInt ≤ k2406.toInt) ∨ (k2406.toInt < k0_7.toInt ∧ v2409.toInt = (aZ H 1 k2406.toInt.toNat).toInt) := by rw [ek2406, e2400, ← m2404]; exact p2410
                        refine g_invti rfl rfl rfl (s_158 v2409 H2397 hIH2397 hJH2397) (fun v2413 H2411 r2412 => ?_)
                        obtain ⟨rfl, bv2413, p2414, p2415⟩ := r2412
                        refine g_if_eq (fun c2416 => ?_) (fun c2416 => ?_)
                        · exact g_ret ⟨rfl, hIH2397, hJH2397, (e2398.symm.trans ek0_2), (e2399.symm.trans ek0_13), (e2400.symm.trans ek0_7), (e2401.symm.trans ek0_19), m2404, (by omega), (by omega)⟩
                        · refine g_aload_n rfl ?_
                          refine g_aload_n rfl ?_
                          refine g_gfi hIH2397 sm_0 rfl (fun v2417 ev2417 lv2417 uv2417 => ?_)
                          refine g_sipush (by decide) (fun v2418 kv2418 => ?_)
                          refine g_if2_le (fun c2419 => ?_) (fun c2419 => ?_)
                          · refine g_bipush (by decide) (fun v2420 kv2420 => ?_)
                            refine g_aload_n rfl ?_
                            refine g_gfi hIH2397 sm_0 rfl (fun v2421 ev2421 lv2421 uv2421 => ?_)
                            refine g_imul' (fun v2422 ov2422 => ?_)
                            refine g_aload_n rfl ?_
                            refine g_invvi hIH2397 sm_0 rfl rfl rfl rfl (s_156 H2397 hIH2397 hJH2397) (fun v2425 H2423 r2424 => ?_)
                            obtain ⟨rfl, bv2425, p2426⟩ := r2424
                            have nv2425 : (v2425.toInt = -1 ∧ k0_7.toInt ≤ k2406.toInt) ∨ (k2406.toInt < k0_7.toInt ∧ v2425.toInt = (aZ H 1 k2406.toInt.toNat).toInt) := by rw [ek2406, e2400, ← m2404]; exact p2426
                            refine g_iadd' (fun v2427 ov2427 => ?_)
                            refine g_bipush (by decide) (fun v2428 kv2428 => ?_)
                            refine g_isub' (fun v2429 ov2429 => ?_)
                            refine g_nop ?_
                            refine g_pfi hIH2397 sm_0 rfl (gz_any _) (fun H2430 eH2430 hIH2430 => ?_)
                            have hJH2430 : JN H2430 := JN_sF eH2430 hJH2397
                            have e2431 : k0_2 = fZ H2430 0 2 := by rw [eH2430, fZ_sF_ne (by decide)]; exact e2398
                            have e2432 : k0_13 = fZ H2430 0 13 := by rw [eH2430, fZ_sF_ne (by decide)]; exact e2399
                            have e2433 : k0_7 = fZ H2430 0 7 := by rw [eH2430, fZ_sF_ne (by decide)]; exact e2400
                            have e2434 : k0_19 = fZ H2430 0 19 := by rw [eH2430, fZ_sF_ne (by decide)]; exact e2401
                            have e2435 : k2282 = fZ H2430 0 9 := by rw [eH2430, fZ_sF_ne (by decide)]; exact e2402
                            have e2436 : v2377 = fZ H2430 0 10 := by rw [eH2430, fZ_sF_ne (by decide)]; exact e2403
                            have e2437 : k2406 = fZ H2430 0 8 := by rw [eH2430, fZ_sF_ne (by decide)]; exact ek2406
                            have m2438 : ∀ a i, aZ H2430 a i = aZ H a i := fun a i => (by rw [eH2430, aZ_sF] : aZ H2430 a i = aZ H2397 a i).trans (m2404 a i)
                            have ie2433 : k0_7.toInt = (fZ H2430 0 7).toInt := by rw [← e2433]
                            have ie2435 : k2282.toInt = (fZ H2430 0 9).toInt := by rw [← e2435]
                            have ie2436 : v2377.toInt = (fZ H2430 0 10).toInt := by rw [← e2436]
                            have ie2437 : k2406.toInt = (fZ H2430 0 8).toInt := by rw [← e2437]
                            refine g_aload_n rfl ?_
                            refine g_dup rfl ?_
                            refine g_gfk hIH2430 sm_0 rfl e2437 ?_
                            refine g_iconst (by decide) (fun v2439 kv2439 => ?_)
                            refine g_iadd (by omega) (fun v2440 ev2440 => ?_)
                            refine g_pfi hIH2430 sm_0 rfl (by omega) (fun H2441 eH2441 hIH2441 => ?_)
                            have hJH2441 : JN H2441 := JN_sF eH2441 hJH2430
                            have e2442 : k0_2 = fZ H2441 0 2 := by rw [eH2441, fZ_sF_ne (by decide)]; exact e2431
                            have e2443 : k0_13 = fZ H2441 0 13 := by rw [eH2441, fZ_sF_ne (by decide)]; exact e2432
                            have e2444 : k0_7 = fZ H2441 0 7 := by rw [eH2441, fZ_sF_ne (by decide)]; exact e2433
                            have e2445 : k0_19 = fZ H2441 0 19 := by rw [eH2441, fZ_sF_ne (by decide)]; exact e2434
                            have e2446 : k2282 = fZ H2441 0 9 := by rw [eH2441, fZ_sF_ne (by decide)]; exact e2435
                            have e2447 : v2377 = fZ H2441 0 10 := by rw [eH2441, fZ_sF_ne (by decide)]; exact e2436
                            have e2448 : v2440 = fZ H2441 0 8 := by rw [eH2441, fZ_sF_eq hIH2430 sm_0 rfl]
                            have m2449 : ∀ a i, aZ H2441 a i = aZ H a i := fun a i => (by rw [eH2441, aZ_sF] : aZ H2441 a i = aZ H2430 a i).trans (m2438 a i)
                            have ie2444 : k0_7.toInt = (fZ H2441 0 7).toInt := by rw [← e2444]
                            have ie2446 : k2282.toInt = (fZ H2441 0 9).toInt := by rw [← e2446]
                            have ie2447 : v2377.toInt = (fZ H2441 0 10).toInt := by rw [← e2447]
                            have ie2448 : v2440.toInt = (fZ H2441 0 8).toInt := by rw [← e2448]
                            refine g_goto ?_
                            exact ihL2405 H2441 hIH2441 hJH2441 e2442 e2443 e2444 e2445 e2446 e2447 m2449 (by rw [← e2448, ← e2444]; omega) (by omega) (by omega)
                          · refine g_aload_n rfl ?_
                            refine g_gfi hIH2397 sm_0 rfl (fun v2450 ev2450 lv2450 uv2450 => ?_)
                            refine g_goto ?_
                            refine g_pfi hIH2397 sm_0 rfl (gz_any _) (fun H2451 eH2451 hIH2451 => ?_)
                            have hJH2451 : JN H2451 := JN_sF eH2451 hJH2397
                            have e2452 : k0_2 = fZ H2451 0 2 := by rw [eH2451, fZ_sF_ne (by decide)]; exact e2398
                            have e2453 : k0_13 = fZ H2451 0 13 := by rw [eH2451, fZ_sF_ne (by decide)]; exact e2399
                            have e2454 : k0_7 = fZ H2451 0 7 := by rw [eH2451, fZ_sF_ne (by decide)]; exact e2400
                            have e2455 : k0_19 = fZ H2451 0 19 := by rw [eH2451, fZ_sF_ne (by decide)]; exact e2401
                            have e2456 : k2282 = fZ H2451 0 9 := by rw [eH2451, fZ_sF_ne (by decide)]; exact e2402
                            have e2457 : v2377 = fZ H2451 0 10 := by rw [eH2451, fZ_sF_ne (by decide)]; exact e2403
                            have e2458 : k2406 = fZ H2451 0 8 := by rw [eH2451, fZ_sF_ne (by decide)]; exact ek2406
                            have m2459 : ∀ a i, aZ H2451 a i = aZ H a i := fun a i => (by rw [eH2451, aZ_sF] : aZ H2451 a i = aZ H2397 a i).trans (m2404 a i)
                            have ie2454 : k0_7.toInt = (fZ H2451 0 7).toInt := by rw [← e2454]
                            have ie2456 : k2282.toInt = (fZ H2451 0 9).toInt := by rw [← e2456]
                            have ie2457 : v2377.toInt = (fZ H2451 0 10).toInt := by rw [← e2457]
                            have ie2458 : k2406.toInt = (fZ H2451 0 8).toInt := by rw [← e2458]
                            refine g_aload_n rfl ?_
                            refine g_dup rfl ?_
                            refine g_gfk hIH2451 sm_0 rfl e2458 ?_
                            refine g_iconst (by decide) (fun v2460 kv2460 => ?_)
                            refine g_iadd (by omega) (fun v2461 ev2461 => ?_)
                            refine g_pfi hIH2451 sm_0 rfl (by omega) (fun H2462 eH2462 hIH2462 => ?_)
                            have hJH2462 : JN H2462 := JN_sF eH2462 hJH2451
                            have e2463 : k0_2 = fZ H2462 0 2 := by rw [eH2462, fZ_sF_ne (by decide)]; exact e2452
                            have e2464 : k0_13 = fZ H2462 0 13 := by rw [eH2462, fZ_sF_ne (by decide)]; exact e2453
                            have e2465 : k0_7 = fZ H2462 0 7 := by rw [eH2462, fZ_sF_ne (by decide)]; exact e2454
                            have e2466 : k0_19 = fZ H2462 0 19 := by rw [eH2462, fZ_sF_ne (by decide)]; exact e2455
                            have e2467 : k2282 = fZ H2462 0 9 := by rw [eH2462, fZ_sF_ne (by decide)]; exact e2456
                            have e2468 : v2377 = fZ H2462 0 10 := by rw [eH2462, fZ_sF_ne (by decide)]; exact e2457
                            have e2469 : v2461 = fZ H2462 0 8 := by rw [eH2462, fZ_sF_eq hIH2451 sm_0 rfl]
                            have m2470 : ∀ a i, aZ H2462 a i = aZ H a i := fun a i => (by rw [eH2462, aZ_sF] : aZ H2462 a i = aZ H2451 a i).trans (m2459 a i)
                            have ie2465 : k0_7.toInt = (fZ H2462 0 7).toInt := by rw [← e2465]
                            have ie2467 : k2282.toInt = (fZ H2462 0 9).toInt := by rw [← e2467]
                            have ie2468 : v2377.toInt = (fZ H2462 0 10).toInt := by rw [← e2468]
                            have ie2469 : v2461.toInt = (fZ H2462 0 8).toInt := by rw [← e2469]
                            refine g_goto ?_
                            exact ihL2405 H2462 hIH2462 hJH2462 e2463 e2464 e2465 e2466 e2467 e2468 m2470 (by rw [← e2469, ← e2465]; omega) (by omega) (by omega)
                    exact L2405 _ H2388 hIH2388 hJH2388 e2389 e2390 e2391 e2392 e2394 e2395 m2396 (by rw [← e2393, ← e2391]; omega) (by omega) (Nat.lt_succ_self _)
                · refine g_aload_n rfl ?_
                  refine g_iconst (by decide) (fun v2471 kv2471 => ?_)
                  refine g_pfi hIH2306 sm_0 rfl (gz_any _) (fun H2472 eH2472 hIH2472 => ?_)
                  have hJH2472 : JN H2472 := JN_sF eH2472 hJH2306
                  have e2473 : k0_2 = fZ H2472 0 2 := by rw [eH2472, fZ_sF_ne (by decide)]; exact e2307
                  have e2474 : k0_13 = fZ H2472 0 13 := by rw [eH2472, fZ_sF_ne (by decide)]; exact e2308
                  have e2475 : k0_7 = fZ H2472 0 7 := by rw [eH2472, fZ_sF_ne (by decide)]; exact e2309
                  have e2476 : k0_19 = fZ H2472 0 19 := by rw [eH2472, fZ_sF_ne (by decide)]; exact e2310
                  have e2477 : k2282 = fZ H2472 0 8 := by rw [eH2472, fZ_sF_ne (by decide)]; exact e2311
                  have e2478 : k2282 = fZ H2472 0 9 := by rw [eH2472, fZ_sF_ne (by decide)]; exact e2312
                  have m2479 : ∀ a i, aZ H2472 a i = aZ H a i := fun a i => (by rw [eH2472, aZ_sF] : aZ H2472 a i = aZ H2306 a i).trans (m2313 a i)
                  have jj2480_10 : (fZ H2472 0 10).toInt = (fZ H2306 0 10).toInt := by rw [eH2472, fZ_sF_ne (by decide)]
                  have ie2475 : k0_7.toInt = (fZ H2472 0 7).toInt := by rw [← e2475]
                  have ie2477 : k2282.toInt = (fZ H2472 0 8).toInt := by rw [← e2477]
                  have ie2478 : k2282.toInt = (fZ H2472 0 9).toInt := by rw [← e2478]
                  refine g_nop ?_
                  have L2488 : ∀ (N : Nat) (H2481 : mzH), gI SM H2481 → JN H2481 → k0_2 = fZ H2481 0 2 → k0_13 = fZ H2481 0 13 → k0_7 = fZ H2481 0 7 → k0_19 = fZ H2481 0 19 → k2282 = fZ H2481 0 9 → (∀ a i, aZ H2481 a i = aZ H a i) → ((fZ H 0 8).toInt < (fZ H2481 0 8).toInt ∨ ((fZ H2481 0 8).toInt < (fZ H2481 0 7).toInt ∧ 97 ≤ (aZ H 1 (fZ H2481 0 8).toInt.toNat).toInt ∧ (aZ H 1 (fZ H2481 0 8).toInt.toNat).toInt ≤ 122)) → (fZ H 0 8).toInt ≤ (fZ H2481 0 8).toInt → (900 - (fZ H2481 0 8).toInt).toNat < N → gG 2 zB_159 (mzBlk zB_159 4) [(0, .ref 0), (1, .int v2317)] [] H2481 0 0 (gRv (fun H' => gI SM H' ∧ JN H' ∧ fZ H' 0 2 = fZ H 0 2 ∧ fZ H' 0 13 = fZ H 0 13 ∧ fZ H' 0 7 = fZ H 0 7 ∧ fZ H' 0 19 = fZ H 0 19 ∧ (∀ a i, aZ H' a i = aZ H a i) ∧ (fZ H 0 8).toInt ≤ (fZ H' 0 8).toInt ∧ ((fZ H' 0 10).toInt = 3 ∨ (fZ H 0 8).toInt < (fZ H' 0 8).toInt))) := by
                    intro N
                    induction N with
                    | zero => intro H2481 hIH2481 hJH2481 e2482 e2483 e2484 e2485 e2486 m2487 q1 q2 hmL2488; exact absurd hmL2488 (Nat.not_lt_zero _)
                    | succ N ihL2488 =>
                      intro H2481 hIH2481 hJH2481 e2482 e2483 e2484 e2485 e2486 m2487 q1 q2 hmL2488
                      obtain ⟨k2489, ek2489⟩ : ∃ z, z = fZ H2481 0 8 := ⟨_, rfl⟩
                      have ik2489 : k2489.toInt = (fZ H2481 0 8).toInt := by rw [← ek2489]
                      have bk2489 : 0 ≤ k2489.toInt ∧ k2489.toInt ≤ 900 := by rw [ek2489]; exact fZ_of hIH2481 sm_0 rfl
                      rw [← ek2489, ← e2484] at q1
                      refine g_aload_n rfl ?_
                      refine g_invvi hIH2481 sm_0 rfl rfl rfl rfl (s_156 H2481 hIH2481 hJH2481) (fun v2492 H2490 r2491 => ?_)
                      obtain ⟨rfl, bv2492, p2493⟩ := r2491
                      have nv2492 : (v2492.toInt = -1 ∧ k0_7.toInt ≤ k2489.toInt) ∨ (k2489.toInt < k0_7.toInt ∧ v2492.toInt = (aZ H 1 k2489.toInt.toNat).toInt) := by rw [ek2489, e2484, ← m2487]; exact p2493
                      refine g_invti rfl rfl rfl (s_157 v2492 H2481 hIH2481 hJH2481) (fun v2496 H2494 r2495 => ?_)
                      obtain ⟨rfl, bv2496, p2497, p2498⟩ := r2495
                      refine g_if_eq (fun c2499 => ?_) (fun c2499 => ?_)
                      · refine g_aload_n rfl ?_
                        refine g_aload_n rfl ?_
                        refine g_gfk hIH2481 sm_0 rfl ek2489 ?_
                        refine g_aload_n rfl ?_
                        refine g_gfk hIH2481 sm_0 rfl e2486 ?_
                        refine g_isub (by omega) (fun v2500 ev2500 => ?_)
                        refine g_bipush (by decide) (fun v2501 kv2501 => ?_)
                        refine g_if2_gt (fun c2502 => ?_) (fun c2502 => ?_)
                        · refine g_iconst (by decide) (fun v2503 kv2503 => ?_)
                          refine g_nop ?_
                          refine g_pfi hIH2481 sm_0 rfl (by omega) (fun H2504 eH2504 hIH2504 => ?_)
                          have hJH2504 : JN H2504 := JN_sF eH2504 hJH2481
                          have e2505 : k0_2 = fZ H2504 0 2 := by rw [eH2504, fZ_sF_ne (by decide)]; exact e2482
                          have e2506 : k0_13 = fZ H2504 0 13 := by rw [eH2504, fZ_sF_ne (by decide)]; exact e2483
                          have e2507 : k0_7 = fZ H2504 0 7 := by rw [eH2504, fZ_sF_ne (by decide)]; exact e2484
                          have e2508 : k0_19 = fZ H2504 0 19 := by rw [eH2504, fZ_sF_ne (by decide)]; exact e2485
                          have e2509 : k2282 = fZ H2504 0 9 := by rw [eH2504, fZ_sF_ne (by decide)]; exact e2486
                          have e2510 : k2489 = fZ H2504 0 8 := by rw [eH2504, fZ_sF_ne (by decide)]; exact ek2489
                          have e2511 : v2503 = fZ H2504 0 10 := by rw [eH2504, fZ_sF_eq hIH2481 sm_0 rfl]
                          have m2512 : ∀ a i, aZ H2504 a i = aZ H a i := fun a i => (by rw [eH2504, aZ_sF] : aZ H2504 a i = aZ H2481 a i).trans (m2487 a i)
                          have ie2507 : k0_7.toInt = (fZ H2504 0 7).toInt := by rw [← e2507]
                          have ie2509 : k2282.toInt = (fZ H2504 0 9).toInt := by rw [← e2509]
                          have ie2510 : k2489.toInt = (fZ H2504 0 8).toInt := by rw [← e2510]
                          have ie2511 : v2503.toInt = (fZ H2504 0 10).toInt := by rw [← e2511]
                          refine g_aload_n rfl ?_
                          refine g_aload_n rfl ?_
                          refine g_invvi hIH2504 sm_0 rfl rfl rfl rfl (s_160 H2504 hIH2504 hJH2504) (fun v2515 H2513 r2514 => ?_)
                          obtain rfl := r2514
                          refine g_pfi hIH2504 sm_0 rfl (gz_any _) (fun H2516 eH2516 hIH2516 => ?_)
                          have hJH2516 : JN H2516 := JN_sF eH2516 hJH2504
                          have e2517 : k0_2 = fZ H2516 0 2 := by rw [eH2516, fZ_sF_ne (by decide)]; exact e2505
                          have e2518 : k0_13 = fZ H2516 0 13 := by rw [eH2516, fZ_sF_ne (by decide)]; exact e2506
                          have e2519 : k0_7 = fZ H2516 0 7 := by rw [eH2516, fZ_sF_ne (by decide)]; exact e2507
                          have e2520 : k0_19 = fZ H2516 0 19 := by rw [eH2516, fZ_sF_ne (by decide)]; exact e2508
                          have e2521 : k2282 = fZ H2516 0 9 := by rw [eH2516, fZ_sF_ne (by decide)]; exact e2509
                          have e2522 : k2489 = fZ H2516 0 8 := by rw [eH2516, fZ_sF_ne (by decide)]; exact e2510
                          have e2523 : v2503 = fZ H2516 0 10 := by rw [eH2516, fZ_sF_ne (by decide)]; exact e2511
                          have m2524 : ∀ a i, aZ H2516 a i = aZ H a i := fun a i => (by rw [eH2516, aZ_sF] : aZ H2516 a i = aZ H2504 a i).trans (m2512 a i)
                          have ie2519 : k0_7.toInt = (fZ H2516 0 7).toInt := by rw [← e2519]
                          have ie2521 : k2282.toInt = (fZ H2516 0 9).toInt := by rw [← e2521]
                          have ie2522 : k2489.toInt = (fZ H2516 0 8).toInt := by rw [← e2522]
                          have ie2523 : v2503.toInt = (fZ H2516 0 10).toInt := by rw [← e2523]
                          refine g_goto ?_
                          exact g_ret ⟨rfl, hIH2516, hJH2516, (e2517.symm.trans ek0_2), (e2518.symm.trans ek0_13), (e2519.symm.trans ek0_7), (e2520.symm.trans ek0_19), m2524, (by omega), (by omega)⟩
                        · refine g_iconst (by decide) (fun v2525 kv2525 => ?_)
                          refine g_goto ?_
                          refine g_pfi hIH2481 sm_0 rfl (by omega) (fun H2526 eH2526 hIH2526 => ?_)
                          have hJH2526 : JN H2526 := JN_sF eH2526 hJH2481
                          have e2527 : k0_2 = fZ H2526 0 2 := by rw [eH2526, fZ_sF_ne (by decide)]; exact e2482
                          have e2528 : k0_13 = fZ H2526 0 13 := by rw [eH2526, fZ_sF_ne (by decide)]; exact e2483
                          have e2529 : k0_7 = fZ H2526 0 7 := by rw [eH2526, fZ_sF_ne (by decide)]; exact e2484
                          have e2530 : k0_19 = fZ H2526 0 19 := by rw [eH2526, fZ_sF_ne (by decide)]; exact e2485
                          have e2531 : k2282 = fZ H2526 0 9 := by rw [eH2526, fZ_sF_ne (by decide)]; exact e2486
                          have e2532 : k2489 = fZ H2526 0 8 := by rw [eH2526, fZ_sF_ne (by decide)]; exact ek2489
                          have e2533 : v2525 = fZ H2526 0 10 := by rw [eH2526, fZ_sF_eq hIH2481 sm_0 rfl]
                          have m2534 : ∀ a i, aZ H2526 a i = aZ H a i := fun a i => (by rw [eH2526, aZ_sF] : aZ H2526 a i = aZ H2481 a i).trans (m2487 a i)
                          have ie2529 : k0_7.toInt = (fZ H2526 0 7).toInt := by rw [← e2529]
                          have ie2531 : k2282.toInt = (fZ H2526 0 9).toInt := by rw [← e2531]
                          have ie2532 : k2489.toInt = (fZ H2526 0 8).toInt := by rw [← e2532]
                          have ie2533 : v2525.toInt = (fZ H2526 0 10).toInt := by rw [← e2533]
                          refine g_aload_n rfl ?_
                          refine g_aload_n rfl ?_
                          refine g_invvi hIH2526 sm_0 rfl rfl rfl rfl (s_160 H2526 hIH2526 hJH2526) (fun v2537 H2535 r2536 => ?_)
                          obtain rfl := r2536
                          refine g_pfi hIH2526 sm_0 rfl (gz_any _) (fun H2538 eH2538 hIH2538 => ?_)
                          have hJH2538 : JN H2538 := JN_sF eH2538 hJH2526
                          have e2539 : k0_2 = fZ H2538 0 2 := by rw [eH2538, fZ_sF_ne (by decide)]; exact e2527
                          have e2540 : k0_13 = fZ H2538 0 13 := by rw [eH2538, fZ_sF_ne (by decide)]; exact e2528
                          have e2541 : k0_7 = fZ H2538 0 7 := by rw [eH2538, fZ_sF_ne (by decide)]; exact e2529
                          have e2542 : k0_19 = fZ H2538 0 19 := by rw [eH2538, fZ_sF_ne (by decide)]; exact e2530
                          have e2543 : k2282 = fZ H2538 0 9 := by rw [eH2538, fZ_sF_ne (by decide)]; exact e2531
                          have e2544 : k2489 = fZ H2538 0 8 := by rw [eH2538, fZ_sF_ne (by decide)]; exact e2532
                          have e2545 : v2525 = fZ H2538 0 10 := by rw [eH2538, fZ_sF_ne (by decide)]; exact e2533
                          have m2546 : ∀ a i, aZ H2538 a i = aZ H a i := fun a i => (by rw [eH2538, aZ_sF] : aZ H2538 a i = aZ H2526 a i).trans (m2534 a i)
                          have ie2541 : k0_7.toInt = (fZ H2538 0 7).toInt := by rw [← e2541]
                          have ie2543 : k2282.toInt = (fZ H2538 0 9).toInt := by rw [← e2543]
                          have ie2544 : k2489.toInt = (fZ H2538 0 8).toInt := by rw [← e2544]
                          have ie2545 : v2525.toInt = (fZ H2538 0 10).toInt := by rw [← e2545]
                          refine g_goto ?_
                          exact g_ret ⟨rfl, hIH2538, hJH2538, (e2539.symm.trans ek0_2), (e2540.symm.trans ek0_13), (e2541.symm.trans ek0_7), (e2542.symm.trans ek0_19), m2546, (by omega), (by omega)⟩
                      · refine g_aload_n rfl ?_
                        refine g_gfk hIH2481 sm_0 rfl ek2489 ?_
                        refine g_aload_n rfl ?_
                        refine g_gfk hIH2481 sm_0 rfl e2486 ?_
                        refine g_isub (by omega) (fun v2547 ev2547 => ?_)
                        refine g_bipush (by decide) (fun v2548 kv2548 => ?_)
                        refine g_if2_ge (fun c2549 => ?_) (fun c2549 => ?_)
                        · refine g_aload_n rfl ?_
                          refine g_dup rfl ?_
                          refine g_gfk hIH2481 sm_0 rfl ek2489 ?_
                          refine g_iconst (by decide) (fun v2550 kv2550 => ?_)
                          refine g_iadd (by omega) (fun v2551 ev2551 => ?_)
                          refine g_pfi hIH2481 sm_0 rfl (by omega) (fun H2552 eH2552 hIH2552 => ?_)
                          have hJH2552 : JN H2552 := JN_sF eH2552 hJH2481
                          have e2553 : k0_2 = fZ H2552 0 2 := by rw [eH2552, fZ_sF_ne (by decide)]; exact e2482
                          have e2554 : k0_13 = fZ H2552 0 13 := by rw [eH2552, fZ_sF_ne (by decide)]; exact e2483
                          have e2555 : k0_7 = fZ H2552 0 7 := by rw [eH2552, fZ_sF_ne (by decide)]; exact e2484
                          have e2556 : k0_19 = fZ H2552 0 19 := by rw [eH2552, fZ_sF_ne (by decide)]; exact e2485
                          have e2557 : k2282 = fZ H2552 0 9 := by rw [eH2552, fZ_sF_ne (by decide)]; exact e2486
                          have e2558 : v2551 = fZ H2552 0 8 := by rw [eH2552, fZ_sF_eq hIH2481 sm_0 rfl]
                          have m2559 : ∀ a i, aZ H2552 a i = aZ H a i := fun a i => (by rw [eH2552, aZ_sF] : aZ H2552 a i = aZ H2481 a i).trans (m2487 a i)
                          have jj2560_10 : (fZ H2552 0 10).toInt = (fZ H2481 0 10).toInt := by rw [eH2552, fZ_sF_ne (by decide)]
                          have ie2555 : k0_7.toInt = (fZ H2552 0 7).toInt := by rw [← e2555]
                          have ie2557 : k2282.toInt = (fZ H2552 0 9).toInt := by rw [← e2557]
                          have ie2558 : v2551.toInt = (fZ H2552 0 8).toInt := by rw [← e2558]
                          refine g_goto ?_
                          exact ihL2488 H2552 hIH2552 hJH2552 e2553 e2554 e2555 e2556 e2557 m2559 (by rw [← e2558, ← e2555]; omega) (by omega) (by omega)
                        · refine g_aload_n rfl ?_
                          refine g_aload_n rfl ?_
                          refine g_gfi hIH2481 sm_0 rfl (fun v2561 ev2561 lv2561 uv2561 => ?_)
                          refine g_iconst (by decide) (fun v2562 kv2562 => ?_)
                          refine g_ishl' (fun v2563 ov2563 => ?_)
                          refine g_aload_n rfl ?_
                          refine g_invvi hIH2481 sm_0 rfl rfl rfl rfl (s_156 H2481 hIH2481 hJH2481) (fun v2566 H2564 r2565 => ?_)
                          obtain ⟨rfl, bv2566, p2567⟩ := r2565
                          have nv2566 : (v2566.toInt = -1 ∧ k0_7.toInt ≤ k2489.toInt) ∨ (k2489.toInt < k0_7.toInt ∧ v2566.toInt = (aZ H 1 k2489.toInt.toNat).toInt) := by rw [ek2489, e2484, ← m2487]; exact p2567
                          refine g_bipush (by decide) (fun v2568 kv2568 => ?_)
                          refine g_isub (by omega) (fun v2569 ev2569 => ?_)
                          refine g_iconst (by decide) (fun v2570 kv2570 => ?_)
                          refine g_iadd (by omega) (fun v2571 ev2571 => ?_)
                          refine g_ior' (fun v2572 ov2572 => ?_)
                          refine g_pfi hIH2481 sm_0 rfl (gz_any _) (fun H2573 eH2573 hIH2573 => ?_)
                          have hJH2573 : JN H2573 := JN_sF eH2573 hJH2481
                          have e2574 : k0_2 = fZ H2573 0 2 := by rw [eH2573, fZ_sF_ne (by decide)]; exact e2482
                          have e2575 : k0_13 = fZ H2573 0 13 := by rw [eH2573, fZ_sF_ne (by decide)]; exact e2483
                          have e2576 : k0_7 = fZ H2573 0 7 := by rw [eH2573, fZ_sF_ne (by decide)]; exact e2484
                          have e2577 : k0_19 = fZ H2573 0 19 := by rw [eH2573, fZ_sF_ne (by decide)]; exact e2485
                          have e2578 : k2282 = fZ H2573 0 9 := by rw [eH2573, fZ_sF_ne (by decide)]; exact e2486
                          have e2579 : k2489 = fZ H2573 0 8 := by rw [eH2573, fZ_sF_ne (by decide)]; exact ek2489
                          have m2580 : ∀ a i, aZ H2573 a i = aZ H a i := fun a i => (by rw [eH2573, aZ_sF] : aZ H2573 a i = aZ H2481 a i).trans (m2487 a i)
                          have jj2581_10 : (fZ H2573 0 10).toInt = (fZ H2481 0 10).toInt := by rw [eH2573, fZ_sF_ne (by decide)]
                          have ie2576 : k0_7.toInt = (fZ H2573 0 7).toInt := by rw [← e2576]
                          have ie2578 : k2282.toInt = (fZ H2573 0 9).toInt := by rw [← e2578]
                          have ie2579 : k2489.toInt = (fZ H2573 0 8).toInt := by rw [← e2579]
                          refine g_nop ?_
                          refine g_aload_n rfl ?_
                          refine g_dup rfl ?_
                          refine g_gfk hIH2573 sm_0 rfl e2579 ?_
                          refine g_iconst (by decide) (fun v2582 kv2582 => ?_)
                          refine g_iadd (by omega) (fun v2583 ev2583 => ?_)
                          refine g_pfi hIH2573 sm_0 rfl (by omega) (fun H2584 eH2584 hIH2584 => ?_)
                          have hJH2584 : JN H2584 := JN_sF eH2584 hJH2573
                          have e2585 : k0_2 = fZ H2584 0 2 := by rw [eH2584, fZ_sF_ne (by decide)]; exact e2574
                          have e2586 : k0_13 = fZ H2584 0 13 := by rw [eH2584, fZ_sF_ne (by decide)]; exact e2575
                          have e2587 : k0_7 = fZ H2584 0 7 := by rw [eH2584, fZ_sF_ne (by decide)]; exact e2576
                          have e2588 : k0_19 = fZ H2584 0 19 := by rw [eH2584, fZ_sF_ne (by decide)]; exact e2577
                          have e2589 : k2282 = fZ H2584 0 9 := by rw [eH2584, fZ_sF_ne (by decide)]; exact e2578
                          have e2590 : v2583 = fZ H2584 0 8 := by rw [eH2584, fZ_sF_eq hIH2573 sm_0 rfl]
                          have m2591 : ∀ a i, aZ H2584 a i = aZ H a i := fun a i => (by rw [eH2584, aZ_sF] : aZ H2584 a i = aZ H2573 a i).trans (m2580 a i)
                          have jj2592_10 : (fZ H2584 0 10).toInt = (fZ H2573 0 10).toInt := by rw [eH2584, fZ_sF_ne (by decide)]
                          have ie2587 : k0_7.toInt = (fZ H2584 0 7).toInt := by rw [← e2587]
                          have ie2589 : k2282.toInt = (fZ H2584 0 9).toInt := by rw [← e2589]
                          have ie2590 : v2583.toInt = (fZ H2584 0 8).toInt := by rw [← e2590]
                          refine g_goto ?_
                          exact ihL2488 H2584 hIH2584 hJH2584 e2585 e2586 e2587 e2588 e2589 m2591 (by rw [← e2590, ← e2587]; omega) (by omega) (by omega)
                  exact L2488 _ H2472 hIH2472 hJH2472 e2473 e2474 e2475 e2476 e2478 m2479 (by rw [← e2477, ← e2475]; omega) (by omega) (Nat.lt_succ_self _)
              · refine g_aload_n rfl ?_
                refine g_iconst (by decide) (fun v2593 kv2593 => ?_)
                refine g_pfi hIH2306 sm_0 rfl (by omega) (fun H2594 eH2594 hIH2594 => ?_)
                have hJH2594 : JN H2594 := JN_sF eH2594 hJH2306
                have e2595 : k0_2 = fZ H2594 0 2 := by rw [eH2594, fZ_sF_ne (by decide)]; exact e2307
                have e2596 : k0_13 = fZ H2594 0 13 := by rw [eH2594, fZ_sF_ne (by decide)]; exact e2308
                have e2597 : k0_7 = fZ H2594 0 7 := by rw [eH2594, fZ_sF_ne (by decide)]; exact e2309
                have e2598 : k0_19 = fZ H2594 0 19 := by rw [eH2594, fZ_sF_ne (by decide)]; exact e2310
                have e2599 : k2282 = fZ H2594 0 8 := by rw [eH2594, fZ_sF_ne (by decide)]; exact e2311
                have e2600 : k2282 = fZ H2594 0 9 := by rw [eH2594, fZ_sF_ne (by decide)]; exact e2312
                have e2601 : v2593 = fZ H2594 0 10 := by rw [eH2594, fZ_sF_eq hIH2306 sm_0 rfl]
                have m2602 : ∀ a i, aZ H2594 a i = aZ H a i := fun a i => (by rw [eH2594, aZ_sF] : aZ H2594 a i = aZ H2306 a i).trans (m2313 a i)
                have ie2597 : k0_7.toInt = (fZ H2594 0 7).toInt := by rw [← e2597]
                have ie2599 : k2282.toInt = (fZ H2594 0 8).toInt := by rw [← e2599]
                have ie2600 : k2282.toInt = (fZ H2594 0 9).toInt := by rw [← e2600]
                have ie2601 : v2593.toInt = (fZ H2594 0 10).toInt := by rw [← e2601]
                refine g_goto ?_
                exact g_ret ⟨rfl, hIH2594, hJH2594, (e2595.symm.trans ek0_2), (e2596.symm.trans ek0_13), (e2597.symm.trans ek0_7), (e2598.symm.trans ek0_19), m2602, (by omega), (by omega)⟩
            · refine g_nop ?_
              refine g_aload_n rfl ?_
              refine g_dup rfl ?_
              refine g_gfk hIH2275 sm_0 rfl ek2282 ?_
              refine g_iconst (by decide) (fun v2603 kv2603 => ?_)
              refine g_iadd (by omega) (fun v2604 ev2604 => ?_)
              refine g_pfi hIH2275 sm_0 rfl (by omega) (fun H2605 eH2605 hIH2605 => ?_)
              have hJH2605 : JN H2605 := JN_sF eH2605 hJH2275
              have e2606 : k0_2 = fZ H2605 0 2 := by rw [eH2605, fZ_sF_ne (by decide)]; exact e2276
              have e2607 : k0_13 = fZ H2605 0 13 := by rw [eH2605, fZ_sF_ne (by decide)]; exact e2277
              have e2608 : k0_7 = fZ H2605 0 7 := by rw [eH2605, fZ_sF_ne (by decide)]; exact e2278
              have e2609 : k0_19 = fZ H2605 0 19 := by rw [eH2605, fZ_sF_ne (by decide)]; exact e2279
              have e2610 : v2604 = fZ H2605 0 8 := by rw [eH2605, fZ_sF_eq hIH2275 sm_0 rfl]
              have m2611 : ∀ a i, aZ H2605 a i = aZ H a i := fun a i => (by rw [eH2605, aZ_sF] : aZ H2605 a i = aZ H2275 a i).trans (m2280 a i)
              have jj2612_10 : (fZ H2605 0 10).toInt = (fZ H2275 0 10).toInt := by rw [eH2605, fZ_sF_ne (by decide)]
              have jj2613_9 : (fZ H2605 0 9).toInt = (fZ H2275 0 9).toInt := by rw [eH2605, fZ_sF_ne (by decide)]
              have ie2608 : k0_7.toInt = (fZ H2605 0 7).toInt := by rw [← e2608]
              have ie2610 : v2604.toInt = (fZ H2605 0 8).toInt := by rw [← e2610]
              refine g_goto ?_
              exact ihL2281 H2605 hIH2605 hJH2605 e2606 e2607 e2608 e2609 m2611 (by omega) (by omega)
      exact L2281 _ H2266 hIH2266 hJH2266 e2267 e2268 e2269 e2270 m2272 (by omega) (Nat.lt_succ_self _)
set_option maxRecDepth 4000 in
set_option maxHeartbeats 4000000 in
/-- M.wrong -/
theorem s_161 (a1 : Int32) (ha1 : 1 ≤ a1.toInt ∧ a1.toInt ≤ 3) (H : mzH) (hI : gI SM H) (hJ : JN H) : gCall 161 [.ref 0, .int a1] H (gRv (fun H' => gI SM H' ∧ JN H' ∧ fZ H' 0 2 = fZ H 0 2 ∧ fZ H' 0 8 = fZ H 0 8 ∧ fZ H' 0 10 = fZ H 0 10 ∧ fZ H' 0 19 = fZ H 0 19 ∧ (∀ a i, aZ H' a i = aZ H a i) ∧ ¬ (fZ H' 0 13).toInt = 0)) := by
  obtain ⟨k0_2, ek0_2⟩ : ∃ z, z = fZ H 0 2 := ⟨_, rfl⟩
  have ik0_2 : k0_2.toInt = (fZ H 0 2).toInt := by rw [← ek0_2]
  have bk0_2 : 0 ≤ k0_2.toInt ∧ k0_2.toInt ≤ 900 := by rw [ek0_2]; exact fZ_of hI sm_0 rfl
  obtain ⟨k0_8, ek0_8⟩ : ∃ z, z = fZ H 0 8 := ⟨_, rfl⟩
  have ik0_8 : k0_8.toInt = (fZ H 0 8).toInt := by rw [← ek0_8]
  have bk0_8 : 0 ≤ k0_8.toInt ∧ k0_8.toInt ≤ 900 := by rw [ek0_8]; exact fZ_of hI sm_0 rfl
  obtain ⟨k0_10, ek0_10⟩ : ∃ z, z = fZ H 0 10 := ⟨_, rfl⟩
  have ik0_10 : k0_10.toInt = (fZ H 0 10).toInt := by rw [← ek0_10]
  have bk0_10 : 0 ≤ k0_10.toInt ∧ k0_10.toInt ≤ 4 := by rw [ek0_10]; exact fZ_of hI sm_0 rfl
  obtain ⟨k0_19, ek0_19⟩ : ∃ z, z = fZ H 0 19 := ⟨_, rfl⟩
  have ik0_19 : k0_19.toInt = (fZ H 0 19).toInt := by rw [← ek0_19]
  obtain ⟨k0_13, ek0_13⟩ : ∃ z, z = fZ H 0 13 := ⟨_, rfl⟩
  have ik0_13 : k0_13.toInt = (fZ H 0 13).toInt := by rw [← ek0_13]
  have mkall : ∀ a i, aZ H a i = aZ H a i := fun _ _ => rfl
  refine gG_call [(0, .ref 0), (1, .int a1)] ⟨rfl, rfl, trivial⟩ ?_
  show gG 2 zB_161 (mzBlk zB_161 0) [(0, .ref 0), (1, .int a1)] [] H 0 0 _
  refine g_aload_n rfl ?_
  refine g_gfk hI sm_0 rfl ek0_13 ?_
  refine g_if_eq (fun c65 => ?_) (fun c65 => ?_)
  · refine g_aload_n rfl ?_
    refine g_iload_n rfl ?_
    refine g_pfi hI sm_0 rfl (gz_any _) (fun H66 eH66 hIH66 => ?_)
    have hJH66 : JN H66 := JN_sF eH66 hJ
    have e67 : k0_2 = fZ H66 0 2 := by rw [eH66, fZ_sF_ne (by decide)]; exact ek0_2
    have e68 : k0_8 = fZ H66 0 8 := by rw [eH66, fZ_sF_ne (by decide)]; exact ek0_8
    have e69 : k0_10 = fZ H66 0 10 := by rw [eH66, fZ_sF_ne (by decide)]; exact ek0_10
    have e70 : k0_19 = fZ H66 0 19 := by rw [eH66, fZ_sF_ne (by decide)]; exact ek0_19
    have e71 : a1 = fZ H66 0 13 := by rw [eH66, fZ_sF_eq hI sm_0 rfl]
    have m72 : ∀ a i, aZ H66 a i = aZ H a i := fun a i => (by rw [eH66, aZ_sF] : aZ H66 a i = aZ H a i).trans (mkall a i)
    have ie71 : a1.toInt = (fZ H66 0 13).toInt := by rw [← e71]
    refine g_aload_n rfl ?_
    refine g_aload_n rfl ?_
    refine g_gfi hIH66 sm_0 rfl (fun v73 ev73 lv73 uv73 => ?_)
    refine g_pfi hIH66 sm_0 rfl (gz_any _) (fun H74 eH74 hIH74 => ?_)
    have hJH74 : JN H74 := JN_sF eH74 hJH66
    have e75 : k0_2 = fZ H74 0 2 := by rw [eH74, fZ_sF_ne (by decide)]; exact e67
    have e76 : k0_8 = fZ H74 0 8 := by rw [eH74, fZ_sF_ne (by decide)]; exact e68
    have e77 : k0_10 = fZ H74 0 10 := by rw [eH74, fZ_sF_ne (by decide)]; exact e69
    have e78 : k0_19 = fZ H74 0 19 := by rw [eH74, fZ_sF_ne (by decide)]; exact e70
    have e79 : a1 = fZ H74 0 13 := by rw [eH74, fZ_sF_ne (by decide)]; exact e71
    have m80 : ∀ a i, aZ H74 a i = aZ H a i := fun a i => (by rw [eH74, aZ_sF] : aZ H74 a i = aZ H66 a i).trans (m72 a i)
    have ie79 : a1.toInt = (fZ H74 0 13).toInt := by rw [← e79]
    exact g_ret ⟨rfl, hIH74, hJH74, (e75.symm.trans ek0_2), (e76.symm.trans ek0_8), (e77.symm.trans ek0_10), (e78.symm.trans ek0_19), m80, (by omega)⟩
  · exact g_ret ⟨rfl, hI, hJ, (ek0_2.symm.trans ek0_2), (ek0_8.symm.trans ek0_8), (ek0_10.symm.trans ek0_10), (ek0_19.symm.trans ek0_19), mkall, (by omega)⟩
set_option maxRecDepth 4000 in
set_option maxHeartbeats 4000000 in
/-- M.goOn -/
theorem s_162 (H : mzH) (hI : gI SM H) (hJ : JN H) : gCall 162 [.ref 0] H (gRv (fun H' => gI SM H' ∧ JN H' ∧ fZ H' 0 2 = fZ H 0 2 ∧ fZ H' 0 13 = fZ H 0 13 ∧ fZ H' 0 19 = fZ H 0 19 ∧ (∀ a i, aZ H' a i = aZ H a i) ∧ (fZ H 0 8).toInt ≤ (fZ H' 0 8).toInt ∧ (¬ (fZ H 0 13).toInt = 0 ∨ (fZ H' 0 10).toInt = 3 ∨ (fZ H 0 8).toInt < (fZ H' 0 8).toInt))) := by
  obtain ⟨k0_2, ek0_2⟩ : ∃ z, z = fZ H 0 2 := ⟨_, rfl⟩
  have ik0_2 : k0_2.toInt = (fZ H 0 2).toInt := by rw [← ek0_2]
  have bk0_2 : 0 ≤ k0_2.toInt ∧ k0_2.toInt ≤ 900 := by rw [ek0_2]; exact fZ_of hI sm_0 rfl
  obtain ⟨k0_13, ek0_13⟩ : ∃ z, z = fZ H 0 13 := ⟨_, rfl⟩
  have ik0_13 : k0_13.toInt = (fZ H 0 13).toInt := by rw [← ek0_13]
  obtain ⟨k0_19, ek0_19⟩ : ∃ z, z = fZ H 0 19 := ⟨_, rfl⟩
  have ik0_19 : k0_19.toInt = (fZ H 0 19).toInt := by rw [← ek0_19]
  obtain ⟨k0_8, ek0_8⟩ : ∃ z, z = fZ H 0 8 := ⟨_, rfl⟩
  have ik0_8 : k0_8.toInt = (fZ H 0 8).toInt := by rw [← ek0_8]
  have bk0_8 : 0 ≤ k0_8.toInt ∧ k0_8.toInt ≤ 900 := by rw [ek0_8]; exact fZ_of hI sm_0 rfl
  have mkall : ∀ a i, aZ H a i = aZ H a i := fun _ _ => rfl
  refine gG_call [(0, .ref 0)] ⟨rfl, trivial⟩ ?_
  show gG 1 zB_162 (mzBlk zB_162 0) [(0, .ref 0)] [] H 0 0 _
  refine g_aload_n rfl ?_
  refine g_gfk hI sm_0 rfl ek0_13 ?_
  refine g_if_ne (fun c57 => ?_) (fun c57 => ?_)
  · exact g_ret ⟨rfl, hI, hJ, (ek0_2.symm.trans ek0_2), (ek0_13.symm.trans ek0_13), (ek0_19.symm.trans ek0_19), mkall, (by omega), (by omega)⟩
  · refine g_aload_n rfl ?_
    refine g_invvv hI sm_0 rfl rfl rfl rfl (s_159 H hI hJ) (fun H58 r59 => ?_)
    obtain ⟨hIH58, hJH58, w60, w61, w62, w63, m64, p65, p66⟩ := r59
    have e67 : k0_2 = fZ H58 0 2 := ek0_2.trans w60.symm
    have e68 : k0_13 = fZ H58 0 13 := ek0_13.trans w61.symm
    have e69 : k0_19 = fZ H58 0 19 := ek0_19.trans w63.symm
    have m70 : ∀ a i, aZ H58 a i = aZ H a i := fun a i => (m64 a i).trans (mkall a i)
    refine g_nop ?_
    exact g_ret ⟨rfl, hIH58, hJH58, (e67.symm.trans ek0_2), (e68.symm.trans ek0_13), (e69.symm.trans ek0_19), m70, (by omega), (by omega)⟩
set_option maxRecDepth 4000 in
set_option maxHeartbeats 4000000 in
/-- M.number -/
theorem s_163 (a1 : Int32) (a2 : Int32) (H : mzH) (hI : gI SM H) (hJ : JN H) (hp0 : a1.toInt ≤ a2.toInt) : gCall 163 [.ref 0, .int a1, .int a2] H (gRi (fun v H' => gI SM H' ∧ JN H' ∧ fZ H' 0 2 = fZ H 0 2 ∧ fZ H' 0 19 = fZ H 0 19 ∧ (∀ a i, aZ H' a i = aZ H a i) ∧ (a1.toInt ≤ v.toInt ∧ v.toInt ≤ a2.toInt) ∧ ((fZ H' 0 13).toInt = 0 → (fZ H 0 13).toInt = 0) ∧ (fZ H 0 8).toInt ≤ (fZ H' 0 8).toInt)) := by
  obtain ⟨k0_2, ek0_2⟩ : ∃ z, z = fZ H 0 2 := ⟨_, rfl⟩
  have ik0_2 : k0_2.toInt = (fZ H 0 2).toInt := by rw [← ek0_2]
  have bk0_2 : 0 ≤ k0_2.toInt ∧ k0_2.toInt ≤ 900 := by rw [ek0_2]; exact fZ_of hI sm_0 rfl
  obtain ⟨k0_19, ek0_19⟩ : ∃ z, z = fZ H 0 19 := ⟨_, rfl⟩
  have ik0_19 : k0_19.toInt = (fZ H 0 19).toInt := by rw [← ek0_19]
  obtain ⟨k0_8, ek0_8⟩ : ∃ z, z = fZ H 0 8 := ⟨_, rfl⟩
  have ik0_8 : k0_8.toInt = (fZ H 0 8).toInt := by rw [← ek0_8]
  have bk0_8 : 0 ≤ k0_8.toInt ∧ k0_8.toInt ≤ 900 := by rw [ek0_8]; exact fZ_of hI sm_0 rfl
  obtain ⟨k0_13, ek0_13⟩ : ∃ z, z = fZ H 0 13 := ⟨_, rfl⟩
  have ik0_13 : k0_13.toInt = (fZ H 0 13).toInt := by rw [← ek0_13]
  obtain ⟨k0_10, ek0_10⟩ : ∃ z, z = fZ H 0 10 := ⟨_, rfl⟩
  have ik0_10 : k0_10.toInt = (fZ H 0 10).toInt := by rw [← ek0_10]
  have bk0_10 : 0 ≤ k0_10.toInt ∧ k0_10.toInt ≤ 4 := by rw [ek0_10]; exact fZ_of hI sm_0 rfl
  obtain ⟨k0_11, ek0_11⟩ : ∃ z, z = fZ H 0 11 := ⟨_, rfl⟩
  have ik0_11 : k0_11.toInt = (fZ H 0 11).toInt := by rw [← ek0_11]
  have mkall : ∀ a i, aZ H a i = aZ H a i := fun _ _ => rfl
  refine gG_call [(0, .ref 0), (1, .int a1), (2, .int a2)] ⟨rfl, rfl, rfl, trivial⟩ ?_
  show gG 4 zB_163 (mzBlk zB_163 0) [(0, .ref 0), (1, .int a1), (2, .int a2)] [] H 0 0 _
  refine g_aload_n rfl ?_
  refine g_gfk hI sm_0 rfl ek0_13 ?_
  refine g_if_eq (fun c565 => ?_) (fun c565 => ?_)
  · refine g_aload_n rfl ?_
    refine g_gfk hI sm_0 rfl ek0_10 ?_
    refine g_iconst (by decide) (fun v566 kv566 => ?_)
    refine g_if2_eq (fun c567 => ?_) (fun c567 => ?_)
    · refine g_aload_n rfl ?_
      refine g_gfk hI sm_0 rfl ek0_11 ?_
      refine g_iload_n rfl ?_
      refine g_if2_lt (fun c568 => ?_) (fun c568 => ?_)
      · refine g_aload_n rfl ?_
        refine g_iconst (by decide) (fun v569 kv569 => ?_)
        refine g_invvv hI sm_0 rfl rfl rfl rfl (s_161 v569 (by omega) H hI hJ) (fun H570 r571 => ?_)
        obtain ⟨hIH570, hJH570, w572, w573, w574, w575, m576, p577⟩ := r571
        have e578 : k0_2 = fZ H570 0 2 := ek0_2.trans w572.symm
        have e579 : k0_8 = fZ H570 0 8 := ek0_8.trans w573.symm
        have e580 : k0_10 = fZ H570 0 10 := ek0_10.trans w574.symm
        have e581 : k0_19 = fZ H570 0 19 := ek0_19.trans w575.symm
        have m582 : ∀ a i, aZ H570 a i = aZ H a i := fun a i => (m576 a i).trans (mkall a i)
        have ie579 : k0_8.toInt = (fZ H570 0 8).toInt := by rw [← e579]
        have ie580 : k0_10.toInt = (fZ H570 0 10).toInt := by rw [← e580]
        refine g_nop ?_
        refine g_aload_n rfl ?_
        refine g_gfi hIH570 sm_0 rfl (fun v583 ev583 lv583 uv583 => ?_)
        have iev583 : v583.toInt = (fZ H570 0 13).toInt := by rw [← ev583]
        refine g_if_ne (fun c584 => ?_) (fun c584 => ?_)
        · refine g_iload_n rfl ?_
          refine g_nop ?_
          refine g_istore_n (l' := [(0, .ref 0), (1, .int a1), (2, .int a2), (3, .int a1)]) rfl rfl ?_
          refine g_aload_n rfl ?_
          refine g_invvv hIH570 sm_0 rfl rfl rfl rfl (s_162 H570 hIH570 hJH570) (fun H585 r586 => ?_)
          obtain ⟨hIH585, hJH585, w587, w588, w589, m590, p591, p592⟩ := r586
          have e593 : k0_2 = fZ H585 0 2 := e578.trans w587.symm
          have e594 : v583 = fZ H585 0 13 := ev583.trans w588.symm
          have e595 : k0_19 = fZ H585 0 19 := e581.trans w589.symm
          have m596 : ∀ a i, aZ H585 a i = aZ H a i := fun a i => (m590 a i).trans (m582 a i)
          have ie594 : v583.toInt = (fZ H585 0 13).toInt := by rw [← e594]
          refine g_iload_n rfl ?_
          exact g_iret ⟨_, rfl, hIH585, hJH585, (e593.symm.trans ek0_2), (e595.symm.trans ek0_19), m596, (by omega), (by omega), (by omega)⟩
        · refine g_aload_n rfl ?_
          refine g_gfi hIH570 sm_0 rfl (fun v597 ev597 lv597 uv597 => ?_)
          have iev597 : v597.toInt = (fZ H570 0 11).toInt := by rw [← ev597]
          refine g_goto ?_
          refine g_istore_n (l' := [(0, .ref 0), (1, .int a1), (2, .int a2), (3, .int v597)]) rfl rfl ?_
          refine g_aload_n rfl ?_
          refine g_invvv hIH570 sm_0 rfl rfl rfl rfl (s_162 H570 hIH570 hJH570) (fun H598 r599 => ?_)
          obtain ⟨hIH598, hJH598, w600, w601, w602, m603, p604, p605⟩ := r599
          have e606 : k0_2 = fZ H598 0 2 := e578.trans w600.symm
          have e607 : v583 = fZ H598 0 13 := ev583.trans w601.symm
          have e608 : k0_19 = fZ H598 0 19 := e581.trans w602.symm
          have m609 : ∀ a i, aZ H598 a i = aZ H a i := fun a i => (m603 a i).trans (m582 a i)
          have ie607 : v583.toInt = (fZ H598 0 13).toInt := by rw [← e607]
          refine g_iload_n rfl ?_
          exact g_iret ⟨_, rfl, hIH598, hJH598, (e606.symm.trans ek0_2), (e608.symm.trans ek0_19), m609, (by omega), (by omega), (by omega)⟩
      · refine g_aload_n rfl ?_
        refine g_gfk hI sm_0 rfl ek0_11 ?_
        refine g_iload_n rfl ?_
        refine g_if2_le (fun c610 => ?_) (fun c610 => ?_)
        · refine g_aload_n rfl ?_
          refine g_gfk hI sm_0 rfl ek0_13 ?_
          refine g_if_ne (fun c611 => ?_) (fun c611 => ?_)
          · exfalso; omega
          · refine g_aload_n rfl ?_
            refine g_gfk hI sm_0 rfl ek0_11 ?_
            refine g_goto ?_
            refine g_istore_n (l' := [(0, .ref 0), (1, .int a1), (2, .int a2), (3, .int k0_11)]) rfl rfl ?_
            refine g_aload_n rfl ?_
            refine g_invvv hI sm_0 rfl rfl rfl rfl (s_162 H hI hJ) (fun H612 r613 => ?_)
            obtain ⟨hIH612, hJH612, w614, w615, w616, m617, p618, p619⟩ := r613
            have e620 : k0_2 = fZ H612 0 2 := ek0_2.trans w614.symm
            have e621 : k0_13 = fZ H612 0 13 := ek0_13.trans w615.symm
            have e622 : k0_19 = fZ H612 0 19 := ek0_19.trans w616.symm
            have m623 : ∀ a i, aZ H612 a i = aZ H a i := fun a i => (m617 a i).trans (mkall a i)
            have ie621 : k0_13.toInt = (fZ H612 0 13).toInt := by rw [← e621]
            refine g_iload_n rfl ?_
            exact g_iret ⟨_, rfl, hIH612, hJH612, (e620.symm.trans ek0_2), (e622.symm.trans ek0_19), m623, (by omega), (by omega), (by omega)⟩
        · refine g_nop ?_
          refine g_aload_n rfl ?_
          refine g_iconst (by decide) (fun v624 kv624 => ?_)
          refine g_invvv hI sm_0 rfl rfl rfl rfl (s_161 v624 (by omega) H hI hJ) (fun H625 r626 => ?_)
          obtain ⟨hIH625, hJH625, w627, w628, w629, w630, m631, p632⟩ := r626
          have e633 : k0_2 = fZ H625 0 2 := ek0_2.trans w627.symm
          have e634 : k0_8 = fZ H625 0 8 := ek0_8.trans w628.symm
          have e635 : k0_10 = fZ H625 0 10 := ek0_10.trans w629.symm
          have e636 : k0_19 = fZ H625 0 19 := ek0_19.trans w630.symm
          have m637 : ∀ a i, aZ H625 a i = aZ H a i := fun a i => (m631 a i).trans (mkall a i)
          have ie634 : k0_8.toInt = (fZ H625 0 8).toInt := by rw [← e634]
          have ie635 : k0_10.toInt = (fZ H625 0 10).toInt := by rw [← e635]
          refine g_nop ?_
          refine g_aload_n rfl ?_
          refine g_gfi hIH625 sm_0 rfl (fun v638 ev638 lv638 uv638 => ?_)
          have iev638 : v638.toInt = (fZ H625 0 13).toInt := by rw [← ev638]
          refine g_if_ne (fun c639 => ?_) (fun c639 => ?_)
          · refine g_iload_n rfl ?_
            refine g_nop ?_
            refine g_istore_n (l' := [(0, .ref 0), (1, .int a1), (2, .int a2), (3, .int a1)]) rfl rfl ?_
            refine g_aload_n rfl ?_
            refine g_invvv hIH625 sm_0 rfl rfl rfl rfl (s_162 H625 hIH625 hJH625) (fun H640 r641 => ?_)
            obtain ⟨hIH640, hJH640, w642, w643, w644, m645, p646, p647⟩ := r641
            have e648 : k0_2 = fZ H640 0 2 := e633.trans w642.symm
            have e649 : v638 = fZ H640 0 13 := ev638.trans w643.symm
            have e650 : k0_19 = fZ H640 0 19 := e636.trans w644.symm
            have m651 : ∀ a i, aZ H640 a i = aZ H a i := fun a i => (m645 a i).trans (m637 a i)
            have ie649 : v638.toInt = (fZ H640 0 13).toInt := by rw [← e649]
            refine g_iload_n rfl ?_
            exact g_iret ⟨_, rfl, hIH640, hJH640, (e648.symm.trans ek0_2), (e650.symm.trans ek0_19), m651, (by omega), (by omega), (by omega)⟩
          · refine g_aload_n rfl ?_
            refine g_gfi hIH625 sm_0 rfl (fun v652 ev652 lv652 uv652 => ?_)
            have iev652 : v652.toInt = (fZ H625 0 11).toInt := by rw [← ev652]
            refine g_goto ?_
            refine g_istore_n (l' := [(0, .ref 0), (1, .int a1), (2, .int a2), (3, .int v652)]) rfl rfl ?_
            refine g_aload_n rfl ?_
            refine g_invvv hIH625 sm_0 rfl rfl rfl rfl (s_162 H625 hIH625 hJH625) (fun H653 r654 => ?_)
            obtain ⟨hIH653, hJH653, w655, w656, w657, m658, p659, p660⟩ := r654
            have e661 : k0_2 = fZ H653 0 2 := e633.trans w655.symm
            have e662 : v638 = fZ H653 0 13 := ev638.trans w656.symm
            have e663 : k0_19 = fZ H653 0 19 := e636.trans w657.symm
            have m664 : ∀ a i, aZ H653 a i = aZ H a i := fun a i => (m658 a i).trans (m637 a i)
            have ie662 : v638.toInt = (fZ H653 0 13).toInt := by rw [← e662]
            refine g_iload_n rfl ?_
            exact g_iret ⟨_, rfl, hIH653, hJH653, (e661.symm.trans ek0_2), (e663.symm.trans ek0_19), m664, (by omega), (by omega), (by omega)⟩
    · refine g_aload_n rfl ?_
      refine g_iconst (by decide) (fun v665 kv665 => ?_)
      refine g_invvv hI sm_0 rfl rfl rfl rfl (s_161 v665 (by omega) H hI hJ) (fun H666 r667 => ?_)
      obtain ⟨hIH666, hJH666, w668, w669, w670, w671, m672, p673⟩ := r667
      have e674 : k0_2 = fZ H666 0 2 := ek0_2.trans w668.symm
      have e675 : k0_8 = fZ H666 0 8 := ek0_8.trans w669.symm
      have e676 : k0_10 = fZ H666 0 10 := ek0_10.trans w670.symm
      have e677 : k0_19 = fZ H666 0 19 := ek0_19.trans w671.symm
      have m678 : ∀ a i, aZ H666 a i = aZ H a i := fun a i => (m672 a i).trans (mkall a i)
      have ie675 : k0_8.toInt = (fZ H666 0 8).toInt := by rw [← e675]
      have ie676 : k0_10.toInt = (fZ H666 0 10).toInt := by rw [← e676]
      refine g_goto ?_
      refine g_aload_n rfl ?_
      refine g_gfi hIH666 sm_0 rfl (fun v679 ev679 lv679 uv679 => ?_)
      have iev679 : v679.toInt = (fZ H666 0 13).toInt := by rw [← ev679]
      refine g_if_ne (fun c680 => ?_) (fun c680 => ?_)
      · refine g_iload_n rfl ?_
        refine g_nop ?_
        refine g_istore_n (l' := [(0, .ref 0), (1, .int a1), (2, .int a2), (3, .int a1)]) rfl rfl ?_
        refine g_aload_n rfl ?_
        refine g_invvv hIH666 sm_0 rfl rfl rfl rfl (s_162 H666 hIH666 hJH666) (fun H681 r682 => ?_)
        obtain ⟨hIH681, hJH681, w683, w684, w685, m686, p687, p688⟩ := r682
        have e689 : k0_2 = fZ H681 0 2 := e674.trans w683.symm
        have e690 : v679 = fZ H681 0 13 := ev679.trans w684.symm
        have e691 : k0_19 = fZ H681 0 19 := e677.trans w685.symm
        have m692 : ∀ a i, aZ H681 a i = aZ H a i := fun a i => (m686 a i).trans (m678 a i)
        have ie690 : v679.toInt = (fZ H681 0 13).toInt := by rw [← e690]
        refine g_iload_n rfl ?_
        exact g_iret ⟨_, rfl, hIH681, hJH681, (e689.symm.trans ek0_2), (e691.symm.trans ek0_19), m692, (by omega), (by omega), (by omega)⟩
      · refine g_aload_n rfl ?_
        refine g_gfi hIH666 sm_0 rfl (fun v693 ev693 lv693 uv693 => ?_)
        have iev693 : v693.toInt = (fZ H666 0 11).toInt := by rw [← ev693]
        refine g_goto ?_
        refine g_istore_n (l' := [(0, .ref 0), (1, .int a1), (2, .int a2), (3, .int v693)]) rfl rfl ?_
        refine g_aload_n rfl ?_
        refine g_invvv hIH666 sm_0 rfl rfl rfl rfl (s_162 H666 hIH666 hJH666) (fun H694 r695 => ?_)
        obtain ⟨hIH694, hJH694, w696, w697, w698, m699, p700, p701⟩ := r695
        have e702 : k0_2 = fZ H694 0 2 := e674.trans w696.symm
        have e703 : v679 = fZ H694 0 13 := ev679.trans w697.symm
        have e704 : k0_19 = fZ H694 0 19 := e677.trans w698.symm
        have m705 : ∀ a i, aZ H694 a i = aZ H a i := fun a i => (m699 a i).trans (m678 a i)
        have ie703 : v679.toInt = (fZ H694 0 13).toInt := by rw [← e703]
        refine g_iload_n rfl ?_
        exact g_iret ⟨_, rfl, hIH694, hJH694, (e702.symm.trans ek0_2), (e704.symm.trans ek0_19), m705, (by omega), (by omega), (by omega)⟩
  · refine g_iload_n rfl ?_
    exact g_iret ⟨_, rfl, hI, hJ, (ek0_2.symm.trans ek0_2), (ek0_19.symm.trans ek0_19), mkall, (by omega), (by omega), (by omega)⟩
set_option maxRecDepth 4000 in
set_option maxHeartbeats 4000000 in
/-- M.placeHere -/
theorem s_164 (H : mzH) (hI : gI SM H) (hJ : JN H) : gCall 164 [.ref 0] H (gRi (fun v H' => H = H' ∧ (-1 ≤ v.toInt ∧ v.toInt ≤ 7))) := by
  refine gG_call [(0, .ref 0)] ⟨rfl, trivial⟩ ?_
  show gG 2 zB_164 (mzBlk zB_164 0) [(0, .ref 0)] [] H 0 0 _
  refine g_aload_n rfl ?_
  refine g_gfi hI sm_0 rfl (fun v117 ev117 lv117 uv117 => ?_)
  refine g_if_ne (fun c118 => ?_) (fun c118 => ?_)
  · refine g_iconst (by decide) (fun v119 kv119 => ?_)
    exact g_iret ⟨_, rfl, rfl, (by omega)⟩
  · refine g_aload_n rfl ?_
    refine g_gfi hI sm_0 rfl (fun v120 ev120 lv120 uv120 => ?_)
    refine g_if_ne (fun c121 => ?_) (fun c121 => ?_)
    · refine g_iconst (by decide) (fun v122 kv122 => ?_)
      exact g_iret ⟨_, rfl, rfl, (by omega)⟩
    · refine g_aload_n rfl ?_
      refine g_gfi hI sm_0 rfl (fun v123 ev123 lv123 uv123 => ?_)
      refine g_iconst (by decide) (fun v124 kv124 => ?_)
      refine g_if2_eq (fun c125 => ?_) (fun c125 => ?_)
      · refine g_iconst (by decide) (fun v126 kv126 => ?_)
        refine g_istore_n (l' := [(0, .ref 0), (1, .int v126)]) rfl rfl ?_
        refine g_nop ?_
        have L128 : ∀ (N : Nat) (v127 : Int32), (0 ≤ v127.toInt ∧ v127.toInt ≤ 8) → (8 - v127.toInt).toNat < N → gG 2 zB_164 (mzBlk zB_164 3) [(0, .ref 0), (1, .int v127)] [] H 0 0 (gRi (fun v H' => H = H' ∧ (-1 ≤ v.toInt ∧ v.toInt ≤ 7))) := by
          intro N
          induction N with
          | zero => intro v127 bv127 hmL128; exact absurd hmL128 (Nat.not_lt_zero _)
          | succ N ihL128 =>
            intro v127 bv127 hmL128
            refine g_iload_n rfl ?_
            refine g_aload_n rfl ?_
            refine g_gfr hI sm_0 rfl ?_
            refine g_iconst (by decide) (fun v129 kv129 => ?_)
            refine g_iaload hI sm_3 rfl (by omega) (fun v130 ev130 lv130 uv130 => ?_)
            have qv130 := JN_n30 hJ (v := v130) (by rw [ev130, show v129.toInt.toNat = 0 from by omega])
            refine g_if2_ge (fun c131 => ?_) (fun c131 => ?_)
            · refine g_iconst (by decide) (fun v132 kv132 => ?_)
              exact g_iret ⟨_, rfl, rfl, (by omega)⟩
            · refine g_aload_n rfl ?_
              refine g_gfr hI sm_0 rfl ?_
              refine g_iload_n rfl ?_
              refine g_iaload hI sm_4 rfl (by omega) (fun v133 ev133 lv133 uv133 => ?_)
              refine g_aload_n rfl ?_
              refine g_gfi hI sm_0 rfl (fun v134 ev134 lv134 uv134 => ?_)
              refine g_if2_ne (fun c135 => ?_) (fun c135 => ?_)
              · refine g_iinc (l' := (fun v136 => [(0, .ref 0), (1, .int v136)])) rfl rfl (by decide) (by omega) (fun _ => rfl) (fun v136 ev136 => ?_)
                refine g_goto ?_
                exact ihL128 v136 (by omega) (by omega)
              · refine g_iload_n rfl ?_
                exact g_iret ⟨_, rfl, rfl, (by omega)⟩
        exact L128 _ v126 (by omega) (Nat.lt_succ_self _)
      · refine g_nop ?_
        refine g_iconst (by decide) (fun v137 kv137 => ?_)
        exact g_iret ⟨_, rfl, rfl, (by omega)⟩
set_option maxRecDepth 4000 in
set_option maxHeartbeats 4000000 in
/-- M.readPlace -/
theorem s_165 (H : mzH) (hI : gI SM H) (hJ : JN H) : gCall 165 [.ref 0] H (gRi (fun v H' => gI SM H' ∧ JN H' ∧ (-1 ≤ v.toInt ∧ v.toInt ≤ 7) ∧ fZ H' 0 2 = fZ H 0 2 ∧ fZ H' 0 19 = fZ H 0 19 ∧ (∀ a i, aZ H' a i = aZ H a i) ∧ ((fZ H' 0 13).toInt = 0 → ((fZ H 0 13).toInt = 0 ∧ 0 ≤ v.toInt)) ∧ (fZ H 0 8).toInt ≤ (fZ H' 0 8).toInt)) := by
  obtain ⟨k0_2, ek0_2⟩ : ∃ z, z = fZ H 0 2 := ⟨_, rfl⟩
  have ik0_2 : k0_2.toInt = (fZ H 0 2).toInt := by rw [← ek0_2]
  have bk0_2 : 0 ≤ k0_2.toInt ∧ k0_2.toInt ≤ 900 := by rw [ek0_2]; exact fZ_of hI sm_0 rfl
  obtain ⟨k0_19, ek0_19⟩ : ∃ z, z = fZ H 0 19 := ⟨_, rfl⟩
  have ik0_19 : k0_19.toInt = (fZ H 0 19).toInt := by rw [← ek0_19]
  obtain ⟨k0_8, ek0_8⟩ : ∃ z, z = fZ H 0 8 := ⟨_, rfl⟩
  have ik0_8 : k0_8.toInt = (fZ H 0 8).toInt := by rw [← ek0_8]
  have bk0_8 : 0 ≤ k0_8.toInt ∧ k0_8.toInt ≤ 900 := by rw [ek0_8]; exact fZ_of hI sm_0 rfl
  obtain ⟨k0_13, ek0_13⟩ : ∃ z, z = fZ H 0 13 := ⟨_, rfl⟩
  have ik0_13 : k0_13.toInt = (fZ H 0 13).toInt := by rw [← ek0_13]
  have mkall : ∀ a i, aZ H a i = aZ H a i := fun _ _ => rfl
  refine gG_call [(0, .ref 0)] ⟨rfl, trivial⟩ ?_
  show gG 2 zB_165 (mzBlk zB_165 0) [(0, .ref 0)] [] H 0 0 _
  refine g_aload_n rfl ?_
  refine g_invvi hI sm_0 rfl rfl rfl rfl (s_164 H hI hJ) (fun v167 H165 r166 => ?_)
  obtain ⟨rfl, bv167⟩ := r166
  refine g_istore_n (l' := [(0, .ref 0), (1, .int v167)]) rfl rfl ?_
  refine g_iload_n rfl ?_
  refine g_iconst (by decide) (fun v168 kv168 => ?_)
  refine g_if2_ne (fun c169 => ?_) (fun c169 => ?_)
  · refine g_aload_n rfl ?_
    refine g_invvv hI sm_0 rfl rfl rfl rfl (s_162 H hI hJ) (fun H170 r171 => ?_)
    obtain ⟨hIH170, hJH170, w172, w173, w174, m175, p176, p177⟩ := r171
    have e178 : k0_2 = fZ H170 0 2 := ek0_2.trans w172.symm
    have e179 : k0_13 = fZ H170 0 13 := ek0_13.trans w173.symm
    have e180 : k0_19 = fZ H170 0 19 := ek0_19.trans w174.symm
    have m181 : ∀ a i, aZ H170 a i = aZ H a i := fun a i => (m175 a i).trans (mkall a i)
    have ie179 : k0_13.toInt = (fZ H170 0 13).toInt := by rw [← e179]
    refine g_iload_n rfl ?_
    exact g_iret ⟨_, rfl, hIH170, hJH170, (by omega), (e178.symm.trans ek0_2), (e180.symm.trans ek0_19), m181, (by omega), (by omega)⟩
  · refine g_aload_n rfl ?_
    refine g_iconst (by decide) (fun v182 kv182 => ?_)
    refine g_invvv hI sm_0 rfl rfl rfl rfl (s_161 v182 (by omega) H hI hJ) (fun H183 r184 => ?_)
    obtain ⟨hIH183, hJH183, w185, w186, w187, w188, m189, p190⟩ := r184
    have e191 : k0_2 = fZ H183 0 2 := ek0_2.trans w185.symm
    have e192 : k0_8 = fZ H183 0 8 := ek0_8.trans w186.symm
    have e193 : k0_19 = fZ H183 0 19 := ek0_19.trans w188.symm
    have iw187 : (fZ H183 0 10).toInt = (fZ H 0 10).toInt := by rw [w187]
    have m194 : ∀ a i, aZ H183 a i = aZ H a i := fun a i => (m189 a i).trans (mkall a i)
    have ie192 : k0_8.toInt = (fZ H183 0 8).toInt := by rw [← e192]
    refine g_nop ?_
    refine g_aload_n rfl ?_
    refine g_invvv hIH183 sm_0 rfl rfl rfl rfl (s_162 H183 hIH183 hJH183) (fun H195 r196 => ?_)
    obtain ⟨hIH195, hJH195, w197, w198, w199, m200, p201, p202⟩ := r196
    have e203 : k0_2 = fZ H195 0 2 := e191.trans w197.symm
    have e204 : k0_19 = fZ H195 0 19 := e193.trans w199.symm
    have iw198 : (fZ H195 0 13).toInt = (fZ H183 0 13).toInt := by rw [w198]
    have m205 : ∀ a i, aZ H195 a i = aZ H a i := fun a i => (m200 a i).trans (m194 a i)
    refine g_iload_n rfl ?_
    exact g_iret ⟨_, rfl, hIH195, hJH195, (by omega), (e203.symm.trans ek0_2), (e204.symm.trans ek0_19), m205, (by omega), (by omega)⟩
set_option maxRecDepth 4000 in
set_option maxHeartbeats 4000000 in
/-- M.readNew -/
theorem s_166 (H : mzH) (hI : gI SM H) (hJ : JN H) : gCall 166 [.ref 0] H (gRv (fun H' => gI SM H' ∧ JN H' ∧ fZ H' 0 2 = fZ H 0 2 ∧ fZ H' 0 19 = fZ H 0 19 ∧ (fZ H 0 8).toInt ≤ (fZ H' 0 8).toInt)) := by
  obtain ⟨k0_2, ek0_2⟩ : ∃ z, z = fZ H 0 2 := ⟨_, rfl⟩
  have ik0_2 : k0_2.toInt = (fZ H 0 2).toInt := by rw [← ek0_2]
  have bk0_2 : 0 ≤ k0_2.toInt ∧ k0_2.toInt ≤ 900 := by rw [ek0_2]; exact fZ_of hI sm_0 rfl
  obtain ⟨k0_19, ek0_19⟩ : ∃ z, z = fZ H 0 19 := ⟨_, rfl⟩
  have ik0_19 : k0_19.toInt = (fZ H 0 19).toInt := by rw [← ek0_19]
  obtain ⟨k0_8, ek0_8⟩ : ∃ z, z = fZ H 0 8 := ⟨_, rfl⟩
  have ik0_8 : k0_8.toInt = (fZ H 0 8).toInt := by rw [← ek0_8]
  have bk0_8 : 0 ≤ k0_8.toInt ∧ k0_8.toInt ≤ 900 := by rw [ek0_8]; exact fZ_of hI sm_0 rfl
  obtain ⟨k0_13, ek0_13⟩ : ∃ z, z = fZ H 0 13 := ⟨_, rfl⟩
  have ik0_13 : k0_13.toInt = (fZ H 0 13).toInt := by rw [← ek0_13]
  have mk3 : ∀ i, aZ H 3 i = aZ H 3 i := fun _ => rfl
  refine gG_call [(0, .ref 0)] ⟨rfl, trivial⟩ ?_
  show gG 2 zB_166 (mzBlk zB_166 0) [(0, .ref 0)] [] H 0 0 _
  refine g_aload_n rfl ?_
  refine g_gfr hI sm_0 rfl ?_
  refine g_iconst (by decide) (fun v3293 kv3293 => ?_)
  refine g_iaload hI sm_3 rfl (by omega) (fun v3294 ev3294 lv3294 uv3294 => ?_)
  have qv3294 := JN_n30 hJ (v := v3294) (by rw [ev3294, show v3293.toInt.toNat = 0 from by omega])
  have zv3294 : v3294.toInt = (aZ H 3 0).toInt := by rw [ev3294, show v3293.toInt.toNat = 0 from by omega, mk3]
  refine g_bipush (by decide) (fun v3295 kv3295 => ?_)
  refine g_if2_ne (fun c3296 => ?_) (fun c3296 => ?_)
  · refine g_aload_n rfl ?_
    refine g_invvv hI sm_0 rfl rfl rfl rfl (s_162 H hI hJ) (fun H3297 r3298 => ?_)
    obtain ⟨hIH3297, hJH3297, w3299, w3300, w3301, m3302, p3303, p3304⟩ := r3298
    have e3305 : k0_2 = fZ H3297 0 2 := ek0_2.trans w3299.symm
    have e3306 : k0_13 = fZ H3297 0 13 := ek0_13.trans w3300.symm
    have e3307 : k0_19 = fZ H3297 0 19 := ek0_19.trans w3301.symm
    have m3308 : ∀ i, aZ H3297 3 i = aZ H 3 i := fun i => (m3302 3 i).trans (mk3 i)
    have ie3306 : k0_13.toInt = (fZ H3297 0 13).toInt := by rw [← e3306]
    refine g_aload_n rfl ?_
    refine g_gfk hIH3297 sm_0 rfl e3306 ?_
    refine g_if_ne (fun c3309 => ?_) (fun c3309 => ?_)
    · refine g_aload_n rfl ?_
      refine g_invvi hIH3297 sm_0 rfl rfl rfl rfl (s_164 H3297 hIH3297 hJH3297) (fun v3312 H3310 r3311 => ?_)
      obtain ⟨rfl, bv3312⟩ := r3311
      refine g_iconst (by decide) (fun v3313 kv3313 => ?_)
      refine g_if2_eq (fun c3314 => ?_) (fun c3314 => ?_)
      · refine g_aload_n rfl ?_
        refine g_gfi hIH3297 sm_0 rfl (fun v3315 ev3315 lv3315 uv3315 => ?_)
        refine g_istore_n (l' := [(0, .ref 0), (1, .int v3315)]) rfl rfl ?_
        refine g_aload_n rfl ?_
        refine g_invvv hIH3297 sm_0 rfl rfl rfl rfl (s_162 H3297 hIH3297 hJH3297) (fun H3316 r3317 => ?_)
        obtain ⟨hIH3316, hJH3316, w3318, w3319, w3320, m3321, p3322, p3323⟩ := r3317
        have e3324 : k0_2 = fZ H3316 0 2 := e3305.trans w3318.symm
        have e3325 : k0_13 = fZ H3316 0 13 := e3306.trans w3319.symm
        have e3326 : k0_19 = fZ H3316 0 19 := e3307.trans w3320.symm
        have m3327 : ∀ i, aZ H3316 3 i = aZ H 3 i := fun i => (m3321 3 i).trans (m3308 i)
        have ie3325 : k0_13.toInt = (fZ H3316 0 13).toInt := by rw [← e3325]
        refine g_aload_n rfl ?_
        refine g_gfk hIH3316 sm_0 rfl e3325 ?_
        refine g_if_eq (fun c3328 => ?_) (fun c3328 => ?_)
        · refine g_aload_n rfl ?_
          refine g_gfr hIH3316 sm_0 rfl ?_
          refine g_aload_n rfl ?_
          refine g_gfr hIH3316 sm_0 rfl ?_
          refine g_iconst (by decide) (fun v3329 kv3329 => ?_)
          refine g_iaload hIH3316 sm_3 rfl (by omega) (fun v3330 ev3330 lv3330 uv3330 => ?_)
          have qv3330 := JN_n30 hJH3316 (v := v3330) (by rw [ev3330, show v3329.toInt.toNat = 0 from by omega])
          have zv3330 : v3330.toInt = (aZ H 3 0).toInt := by rw [ev3330, show v3329.toInt.toNat = 0 from by omega, m3327]
          refine g_iload_n rfl ?_
          refine g_iastore hIH3316 sm_4 (by omega) (gz_any _) (fun H3331 eH3331 hIH3331 => ?_)
          have hJH3331 : JN H3331 := JN_sA (by decide) eH3331 hJH3316
          have e3332 : k0_2 = fZ H3331 0 2 := by rw [eH3331, fZ_sA]; exact e3324
          have e3333 : k0_13 = fZ H3331 0 13 := by rw [eH3331, fZ_sA]; exact e3325
          have e3334 : k0_19 = fZ H3331 0 19 := by rw [eH3331, fZ_sA]; exact e3326
          have m3335 : ∀ i, aZ H3331 3 i = aZ H 3 i := fun i => (by rw [eH3331, aZ_sA_nc (by omega)] : aZ H3331 3 i = aZ H3316 3 i).trans (m3327 i)
          have jj3336_8 : (fZ H3331 0 8).toInt = (fZ H3316 0 8).toInt := by rw [eH3331, fZ_sA]
          have jj3337_10 : (fZ H3331 0 10).toInt = (fZ H3316 0 10).toInt := by rw [eH3331, fZ_sA]
          have jj3338_8 : (fZ H3331 0 8).toInt = (fZ H3316 0 8).toInt := by rw [eH3331, fZ_sA]
          have ie3333 : k0_13.toInt = (fZ H3331 0 13).toInt := by rw [← e3333]
          refine g_aload_n rfl ?_
          refine g_gfr hIH3331 sm_0 rfl ?_
          refine g_iconst (by decide) (fun v3339 kv3339 => ?_)
          refine g_dup2 rfl ?_
          refine g_iaload hIH3331 sm_3 rfl (by omega) (fun v3340 ev3340 lv3340 uv3340 => ?_)
          have qv3340 := JN_n30 hJH3331 (v := v3340) (by rw [ev3340, show v3339.toInt.toNat = 0 from by omega])
          have zv3340 : v3340.toInt = (aZ H 3 0).toInt := by rw [ev3340, show v3339.toInt.toNat = 0 from by omega, m3335]
          refine g_iconst (by decide) (fun v3341 kv3341 => ?_)
          refine g_iadd (by omega) (fun v3342 ev3342 => ?_)
          refine g_iastore hIH3331 sm_3 (by omega) (gz_any _) (fun H3343 eH3343 hIH3343 => ?_)
          have hJH3343 : JN H3343 := JN_s3 hIH3331 hJH3331 (by omega) (by omega) (by omega) eH3343
          have e3344 : k0_2 = fZ H3343 0 2 := by rw [eH3343, fZ_sA]; exact e3332
          have e3345 : k0_13 = fZ H3343 0 13 := by rw [eH3343, fZ_sA]; exact e3333
          have e3346 : k0_19 = fZ H3343 0 19 := by rw [eH3343, fZ_sA]; exact e3334
          have jj3348_8 : (fZ H3343 0 8).toInt = (fZ H3331 0 8).toInt := by rw [eH3343, fZ_sA]
          have jj3349_10 : (fZ H3343 0 10).toInt = (fZ H3331 0 10).toInt := by rw [eH3343, fZ_sA]
          have jj3350_8 : (fZ H3343 0 8).toInt = (fZ H3331 0 8).toInt := by rw [eH3343, fZ_sA]
          have ie3345 : k0_13.toInt = (fZ H3343 0 13).toInt := by rw [← e3345]
          exact g_ret ⟨rfl, hIH3343, hJH3343, (e3344.symm.trans ek0_2), (e3346.symm.trans ek0_19), (by omega)⟩
        · exact g_ret ⟨rfl, hIH3316, hJH3316, (e3324.symm.trans ek0_2), (e3326.symm.trans ek0_19), (by omega)⟩
      · refine g_aload_n rfl ?_
        refine g_iconst (by decide) (fun v3351 kv3351 => ?_)
        refine g_invvv hIH3297 sm_0 rfl rfl rfl rfl (s_161 v3351 (by omega) H3297 hIH3297 hJH3297) (fun H3352 r3353 => ?_)
        obtain ⟨hIH3352, hJH3352, w3354, w3355, w3356, w3357, m3358, p3359⟩ := r3353
        have e3360 : k0_2 = fZ H3352 0 2 := e3305.trans w3354.symm
        have e3361 : k0_19 = fZ H3352 0 19 := e3307.trans w3357.symm
        have iw3355 : (fZ H3352 0 8).toInt = (fZ H3297 0 8).toInt := by rw [w3355]
        have iw3356 : (fZ H3352 0 10).toInt = (fZ H3297 0 10).toInt := by rw [w3356]
        have m3362 : ∀ i, aZ H3352 3 i = aZ H 3 i := fun i => (m3358 3 i).trans (m3308 i)
        refine g_nop ?_
        refine g_aload_n rfl ?_
        refine g_gfi hIH3352 sm_0 rfl (fun v3363 ev3363 lv3363 uv3363 => ?_)
        refine g_istore_n (l' := [(0, .ref 0), (1, .int v3363)]) rfl rfl ?_
        refine g_aload_n rfl ?_
        refine g_invvv hIH3352 sm_0 rfl rfl rfl rfl (s_162 H3352 hIH3352 hJH3352) (fun H3364 r3365 => ?_)
        obtain ⟨hIH3364, hJH3364, w3366, w3367, w3368, m3369, p3370, p3371⟩ := r3365
        have e3372 : k0_2 = fZ H3364 0 2 := e3360.trans w3366.symm
        have e3373 : k0_19 = fZ H3364 0 19 := e3361.trans w3368.symm
        have iw3367 : (fZ H3364 0 13).toInt = (fZ H3352 0 13).toInt := by rw [w3367]
        have m3374 : ∀ i, aZ H3364 3 i = aZ H 3 i := fun i => (m3369 3 i).trans (m3362 i)
        refine g_aload_n rfl ?_
        refine g_gfi hIH3364 sm_0 rfl (fun v3375 ev3375 lv3375 uv3375 => ?_)
        have iev3375 : v3375.toInt = (fZ H3364 0 13).toInt := by rw [← ev3375]
        refine g_if_eq (fun c3376 => ?_) (fun c3376 => ?_)
        · refine g_aload_n rfl ?_
          refine g_gfr hIH3364 sm_0 rfl ?_
          refine g_aload_n rfl ?_
          refine g_gfr hIH3364 sm_0 rfl ?_
          refine g_iconst (by decide) (fun v3377 kv3377 => ?_)
          refine g_iaload hIH3364 sm_3 rfl (by omega) (fun v3378 ev3378 lv3378 uv3378 => ?_)
          have qv3378 := JN_n30 hJH3364 (v := v3378) (by rw [ev3378, show v3377.toInt.toNat = 0 from by omega])
          have zv3378 : v3378.toInt = (aZ H 3 0).toInt := by rw [ev3378, show v3377.toInt.toNat = 0 from by omega, m3374]
          refine g_iload_n rfl ?_
          refine g_iastore hIH3364 sm_4 (by omega) (gz_any _) (fun H3379 eH3379 hIH3379 => ?_)
          have hJH3379 : JN H3379 := JN_sA (by decide) eH3379 hJH3364
          have e3380 : k0_2 = fZ H3379 0 2 := by rw [eH3379, fZ_sA]; exact e3372
          have e3381 : k0_19 = fZ H3379 0 19 := by rw [eH3379, fZ_sA]; exact e3373
          have e3382 : v3375 = fZ H3379 0 13 := by rw [eH3379, fZ_sA]; exact ev3375
          have m3383 : ∀ i, aZ H3379 3 i = aZ H 3 i := fun i => (by rw [eH3379, aZ_sA_nc (by omega)] : aZ H3379 3 i = aZ H3364 3 i).trans (m3374 i)
          have jj3384_8 : (fZ H3379 0 8).toInt = (fZ H3364 0 8).toInt := by rw [eH3379, fZ_sA]
          have jj3385_10 : (fZ H3379 0 10).toInt = (fZ H3364 0 10).toInt := by rw [eH3379, fZ_sA]
          have jj3386_8 : (fZ H3379 0 8).toInt = (fZ H3364 0 8).toInt := by rw [eH3379, fZ_sA]
          have ie3382 : v3375.toInt = (fZ H3379 0 13).toInt := by rw [← e3382]
          refine g_aload_n rfl ?_
          refine g_gfr hIH3379 sm_0 rfl ?_
          refine g_iconst (by decide) (fun v3387 kv3387 => ?_)
          refine g_dup2 rfl ?_
          refine g_iaload hIH3379 sm_3 rfl (by omega) (fun v3388 ev3388 lv3388 uv3388 => ?_)
          have qv3388 := JN_n30 hJH3379 (v := v3388) (by rw [ev3388, show v3387.toInt.toNat = 0 from by omega])
          have zv3388 : v3388.toInt = (aZ H 3 0).toInt := by rw [ev3388, show v3387.toInt.toNat = 0 from by omega, m3383]
          refine g_iconst (by decide) (fun v3389 kv3389 => ?_)
          refine g_iadd (by omega) (fun v3390 ev3390 => ?_)
          refine g_iastore hIH3379 sm_3 (by omega) (gz_any _) (fun H3391 eH3391 hIH3391 => ?_)
          have hJH3391 : JN H3391 := JN_s3 hIH3379 hJH3379 (by omega) (by omega) (by omega) eH3391
          have e3392 : k0_2 = fZ H3391 0 2 := by rw [eH3391, fZ_sA]; exact e3380
          have e3393 : k0_19 = fZ H3391 0 19 := by rw [eH3391, fZ_sA]; exact e3381
          have e3394 : v3375 = fZ H3391 0 13 := by rw [eH3391, fZ_sA]; exact e3382
          have jj3396_8 : (fZ H3391 0 8).toInt = (fZ H3379 0 8).toInt := by rw [eH3391, fZ_sA]
          have jj3397_10 : (fZ H3391 0 10).toInt = (fZ H3379 0 10).toInt := by rw [eH3391, fZ_sA]
          have jj3398_8 : (fZ H3391 0 8).toInt = (fZ H3379 0 8).toInt := by rw [eH3391, fZ_sA]
          have ie3394 : v3375.toInt = (fZ H3391 0 13).toInt := by rw [← e3394]
          exact g_ret ⟨rfl, hIH3391, hJH3391, (e3392.symm.trans ek0_2), (e3393.symm.trans ek0_19), (by omega)⟩
        · exact g_ret ⟨rfl, hIH3364, hJH3364, (e3372.symm.trans ek0_2), (e3373.symm.trans ek0_19), (by omega)⟩
    · refine g_aload_n rfl ?_
      refine g_gfi hIH3297 sm_0 rfl (fun v3399 ev3399 lv3399 uv3399 => ?_)
      have iev3399 : v3399.toInt = (fZ H3297 0 10).toInt := by rw [← ev3399]
      refine g_if_ne (fun c3400 => ?_) (fun c3400 => ?_)
      · refine g_aload_n rfl ?_
        refine g_iconst (by decide) (fun v3401 kv3401 => ?_)
        refine g_invvv hIH3297 sm_0 rfl rfl rfl rfl (s_161 v3401 (by omega) H3297 hIH3297 hJH3297) (fun H3402 r3403 => ?_)
        obtain ⟨hIH3402, hJH3402, w3404, w3405, w3406, w3407, m3408, p3409⟩ := r3403
        have e3410 : k0_2 = fZ H3402 0 2 := e3305.trans w3404.symm
        have e3411 : v3399 = fZ H3402 0 10 := ev3399.trans w3406.symm
        have e3412 : k0_19 = fZ H3402 0 19 := e3307.trans w3407.symm
        have iw3405 : (fZ H3402 0 8).toInt = (fZ H3297 0 8).toInt := by rw [w3405]
        have m3413 : ∀ i, aZ H3402 3 i = aZ H 3 i := fun i => (m3408 3 i).trans (m3308 i)
        have ie3411 : v3399.toInt = (fZ H3402 0 10).toInt := by rw [← e3411]
        refine g_nop ?_
        refine g_aload_n rfl ?_
        refine g_invvi hIH3402 sm_0 rfl rfl rfl rfl (s_164 H3402 hIH3402 hJH3402) (fun v3416 H3414 r3415 => ?_)
        obtain ⟨rfl, bv3416⟩ := r3415
        refine g_iconst (by decide) (fun v3417 kv3417 => ?_)
        refine g_if2_eq (fun c3418 => ?_) (fun c3418 => ?_)
        · refine g_aload_n rfl ?_
          refine g_gfi hIH3402 sm_0 rfl (fun v3419 ev3419 lv3419 uv3419 => ?_)
          refine g_istore_n (l' := [(0, .ref 0), (1, .int v3419)]) rfl rfl ?_
          refine g_aload_n rfl ?_
          refine g_invvv hIH3402 sm_0 rfl rfl rfl rfl (s_162 H3402 hIH3402 hJH3402) (fun H3420 r3421 => ?_)
          obtain ⟨hIH3420, hJH3420, w3422, w3423, w3424, m3425, p3426, p3427⟩ := r3421
          have e3428 : k0_2 = fZ H3420 0 2 := e3410.trans w3422.symm
          have e3429 : k0_19 = fZ H3420 0 19 := e3412.trans w3424.symm
          have iw3423 : (fZ H3420 0 13).toInt = (fZ H3402 0 13).toInt := by rw [w3423]
          have m3430 : ∀ i, aZ H3420 3 i = aZ H 3 i := fun i => (m3425 3 i).trans (m3413 i)
          refine g_aload_n rfl ?_
          refine g_gfi hIH3420 sm_0 rfl (fun v3431 ev3431 lv3431 uv3431 => ?_)
          have iev3431 : v3431.toInt = (fZ H3420 0 13).toInt := by rw [← ev3431]
          refine g_if_eq (fun c3432 => ?_) (fun c3432 => ?_)
          · refine g_aload_n rfl ?_
            refine g_gfr hIH3420 sm_0 rfl ?_
            refine g_aload_n rfl ?_
            refine g_gfr hIH3420 sm_0 rfl ?_
            refine g_iconst (by decide) (fun v3433 kv3433 => ?_)
            refine g_iaload hIH3420 sm_3 rfl (by omega) (fun v3434 ev3434 lv3434 uv3434 => ?_)
            have qv3434 := JN_n30 hJH3420 (v := v3434) (by rw [ev3434, show v3433.toInt.toNat = 0 from by omega])
            have zv3434 : v3434.toInt = (aZ H 3 0).toInt := by rw [ev3434, show v3433.toInt.toNat = 0 from by omega, m3430]
            refine g_iload_n rfl ?_
            refine g_iastore hIH3420 sm_4 (by omega) (gz_any _) (fun H3435 eH3435 hIH3435 => ?_)
            have hJH3435 : JN H3435 := JN_sA (by decide) eH3435 hJH3420
            have e3436 : k0_2 = fZ H3435 0 2 := by rw [eH3435, fZ_sA]; exact e3428
            have e3437 : k0_19 = fZ H3435 0 19 := by rw [eH3435, fZ_sA]; exact e3429
            have e3438 : v3431 = fZ H3435 0 13 := by rw [eH3435, fZ_sA]; exact ev3431
            have m3439 : ∀ i, aZ H3435 3 i = aZ H 3 i := fun i => (by rw [eH3435, aZ_sA_nc (by omega)] : aZ H3435 3 i = aZ H3420 3 i).trans (m3430 i)
            have jj3440_8 : (fZ H3435 0 8).toInt = (fZ H3420 0 8).toInt := by rw [eH3435, fZ_sA]
            have jj3441_10 : (fZ H3435 0 10).toInt = (fZ H3420 0 10).toInt := by rw [eH3435, fZ_sA]
            have jj3442_8 : (fZ H3435 0 8).toInt = (fZ H3420 0 8).toInt := by rw [eH3435, fZ_sA]
            have ie3438 : v3431.toInt = (fZ H3435 0 13).toInt := by rw [← e3438]
            refine g_aload_n rfl ?_
            refine g_gfr hIH3435 sm_0 rfl ?_
            refine g_iconst (by decide) (fun v3443 kv3443 => ?_)
            refine g_dup2 rfl ?_
            refine g_iaload hIH3435 sm_3 rfl (by omega) (fun v3444 ev3444 lv3444 uv3444 => ?_)
            have qv3444 := JN_n30 hJH3435 (v := v3444) (by rw [ev3444, show v3443.toInt.toNat = 0 from by omega])
            have zv3444 : v3444.toInt = (aZ H 3 0).toInt := by rw [ev3444, show v3443.toInt.toNat = 0 from by omega, m3439]
            refine g_iconst (by decide) (fun v3445 kv3445 => ?_)
            refine g_iadd (by omega) (fun v3446 ev3446 => ?_)
            refine g_iastore hIH3435 sm_3 (by omega) (gz_any _) (fun H3447 eH3447 hIH3447 => ?_)
            have hJH3447 : JN H3447 := JN_s3 hIH3435 hJH3435 (by omega) (by omega) (by omega) eH3447
            have e3448 : k0_2 = fZ H3447 0 2 := by rw [eH3447, fZ_sA]; exact e3436
            have e3449 : k0_19 = fZ H3447 0 19 := by rw [eH3447, fZ_sA]; exact e3437
            have e3450 : v3431 = fZ H3447 0 13 := by rw [eH3447, fZ_sA]; exact e3438
            have jj3452_8 : (fZ H3447 0 8).toInt = (fZ H3435 0 8).toInt := by rw [eH3447, fZ_sA]
            have jj3453_10 : (fZ H3447 0 10).toInt = (fZ H3435 0 10).toInt := by rw [eH3447, fZ_sA]
            have jj3454_8 : (fZ H3447 0 8).toInt = (fZ H3435 0 8).toInt := by rw [eH3447, fZ_sA]
            have ie3450 : v3431.toInt = (fZ H3447 0 13).toInt := by rw [← e3450]
            exact g_ret ⟨rfl, hIH3447, hJH3447, (e3448.symm.trans ek0_2), (e3449.symm.trans ek0_19), (by omega)⟩
          · exact g_ret ⟨rfl, hIH3420, hJH3420, (e3428.symm.trans ek0_2), (e3429.symm.trans ek0_19), (by omega)⟩
        · refine g_aload_n rfl ?_
          refine g_iconst (by decide) (fun v3455 kv3455 => ?_)
          refine g_invvv hIH3402 sm_0 rfl rfl rfl rfl (s_161 v3455 (by omega) H3402 hIH3402 hJH3402) (fun H3456 r3457 => ?_)
          obtain ⟨hIH3456, hJH3456, w3458, w3459, w3460, w3461, m3462, p3463⟩ := r3457
          have e3464 : k0_2 = fZ H3456 0 2 := e3410.trans w3458.symm
          have e3465 : v3399 = fZ H3456 0 10 := e3411.trans w3460.symm
          have e3466 : k0_19 = fZ H3456 0 19 := e3412.trans w3461.symm
          have iw3459 : (fZ H3456 0 8).toInt = (fZ H3402 0 8).toInt := by rw [w3459]
          have m3467 : ∀ i, aZ H3456 3 i = aZ H 3 i := fun i => (m3462 3 i).trans (m3413 i)
          have ie3465 : v3399.toInt = (fZ H3456 0 10).toInt := by rw [← e3465]
          refine g_nop ?_
          refine g_aload_n rfl ?_
          refine g_gfi hIH3456 sm_0 rfl (fun v3468 ev3468 lv3468 uv3468 => ?_)
          refine g_istore_n (l' := [(0, .ref 0), (1, .int v3468)]) rfl rfl ?_
          refine g_aload_n rfl ?_
          refine g_invvv hIH3456 sm_0 rfl rfl rfl rfl (s_162 H3456 hIH3456 hJH3456) (fun H3469 r3470 => ?_)
          obtain ⟨hIH3469, hJH3469, w3471, w3472, w3473, m3474, p3475, p3476⟩ := r3470
          have e3477 : k0_2 = fZ H3469 0 2 := e3464.trans w3471.symm
          have e3478 : k0_19 = fZ H3469 0 19 := e3466.trans w3473.symm
          have iw3472 : (fZ H3469 0 13).toInt = (fZ H3456 0 13).toInt := by rw [w3472]
          have m3479 : ∀ i, aZ H3469 3 i = aZ H 3 i := fun i => (m3474 3 i).trans (m3467 i)
          refine g_aload_n rfl ?_
          refine g_gfi hIH3469 sm_0 rfl (fun v3480 ev3480 lv3480 uv3480 => ?_)
          have iev3480 : v3480.toInt = (fZ H3469 0 13).toInt := by rw [← ev3480]
          refine g_if_eq (fun c3481 => ?_) (fun c3481 => ?_)
          · refine g_aload_n rfl ?_
            refine g_gfr hIH3469 sm_0 rfl ?_
            refine g_aload_n rfl ?_
            refine g_gfr hIH3469 sm_0 rfl ?_
            refine g_iconst (by decide) (fun v3482 kv3482 => ?_)
            refine g_iaload hIH3469 sm_3 rfl (by omega) (fun v3483 ev3483 lv3483 uv3483 => ?_)
            have qv3483 := JN_n30 hJH3469 (v := v3483) (by rw [ev3483, show v3482.toInt.toNat = 0 from by omega])
            have zv3483 : v3483.toInt = (aZ H 3 0).toInt := by rw [ev3483, show v3482.toInt.toNat = 0 from by omega, m3479]
            refine g_iload_n rfl ?_
            refine g_iastore hIH3469 sm_4 (by omega) (gz_any _) (fun H3484 eH3484 hIH3484 => ?_)
            have hJH3484 : JN H3484 := JN_sA (by decide) eH3484 hJH3469
            have e3485 : k0_2 = fZ H3484 0 2 := by rw [eH3484, fZ_sA]; exact e3477
            have e3486 : k0_19 = fZ H3484 0 19 := by rw [eH3484, fZ_sA]; exact e3478
            have e3487 : v3480 = fZ H3484 0 13 := by rw [eH3484, fZ_sA]; exact ev3480
            have m3488 : ∀ i, aZ H3484 3 i = aZ H 3 i := fun i => (by rw [eH3484, aZ_sA_nc (by omega)] : aZ H3484 3 i = aZ H3469 3 i).trans (m3479 i)
            have jj3489_8 : (fZ H3484 0 8).toInt = (fZ H3469 0 8).toInt := by rw [eH3484, fZ_sA]
            have jj3490_10 : (fZ H3484 0 10).toInt = (fZ H3469 0 10).toInt := by rw [eH3484, fZ_sA]
            have jj3491_8 : (fZ H3484 0 8).toInt = (fZ H3469 0 8).toInt := by rw [eH3484, fZ_sA]
            have ie3487 : v3480.toInt = (fZ H3484 0 13).toInt := by rw [← e3487]
            refine g_aload_n rfl ?_
            refine g_gfr hIH3484 sm_0 rfl ?_
            refine g_iconst (by decide) (fun v3492 kv3492 => ?_)
            refine g_dup2 rfl ?_
            refine g_iaload hIH3484 sm_3 rfl (by omega) (fun v3493 ev3493 lv3493 uv3493 => ?_)
            have qv3493 := JN_n30 hJH3484 (v := v3493) (by rw [ev3493, show v3492.toInt.toNat = 0 from by omega])
            have zv3493 : v3493.toInt = (aZ H 3 0).toInt := by rw [ev3493, show v3492.toInt.toNat = 0 from by omega, m3488]
            refine g_iconst (by decide) (fun v3494 kv3494 => ?_)
            refine g_iadd (by omega) (fun v3495 ev3495 => ?_)
            refine g_iastore hIH3484 sm_3 (by omega) (gz_any _) (fun H3496 eH3496 hIH3496 => ?_)
            have hJH3496 : JN H3496 := JN_s3 hIH3484 hJH3484 (by omega) (by omega) (by omega) eH3496
            have e3497 : k0_2 = fZ H3496 0 2 := by rw [eH3496, fZ_sA]; exact e3485
            have e3498 : k0_19 = fZ H3496 0 19 := by rw [eH3496, fZ_sA]; exact e3486
            have e3499 : v3480 = fZ H3496 0 13 := by rw [eH3496, fZ_sA]; exact e3487
            have jj3501_8 : (fZ H3496 0 8).toInt = (fZ H3484 0 8).toInt := by rw [eH3496, fZ_sA]
            have jj3502_10 : (fZ H3496 0 10).toInt = (fZ H3484 0 10).toInt := by rw [eH3496, fZ_sA]
            have jj3503_8 : (fZ H3496 0 8).toInt = (fZ H3484 0 8).toInt := by rw [eH3496, fZ_sA]
            have ie3499 : v3480.toInt = (fZ H3496 0 13).toInt := by rw [← e3499]
            exact g_ret ⟨rfl, hIH3496, hJH3496, (e3497.symm.trans ek0_2), (e3498.symm.trans ek0_19), (by omega)⟩
          · exact g_ret ⟨rfl, hIH3469, hJH3469, (e3477.symm.trans ek0_2), (e3478.symm.trans ek0_19), (by omega)⟩
      · refine g_aload_n rfl ?_
        refine g_gfi hIH3297 sm_0 rfl (fun v3504 ev3504 lv3504 uv3504 => ?_)
        refine g_iconst (by decide) (fun v3505 kv3505 => ?_)
        refine g_if2_eq (fun c3506 => ?_) (fun c3506 => ?_)
        · refine g_aload_n rfl ?_
          refine g_invvi hIH3297 sm_0 rfl rfl rfl rfl (s_164 H3297 hIH3297 hJH3297) (fun v3509 H3507 r3508 => ?_)
          obtain ⟨rfl, bv3509⟩ := r3508
          refine g_iconst (by decide) (fun v3510 kv3510 => ?_)
          refine g_if2_eq (fun c3511 => ?_) (fun c3511 => ?_)
          · refine g_aload_n rfl ?_
            refine g_gfi hIH3297 sm_0 rfl (fun v3512 ev3512 lv3512 uv3512 => ?_)
            refine g_istore_n (l' := [(0, .ref 0), (1, .int v3512)]) rfl rfl ?_
            refine g_aload_n rfl ?_
            refine g_invvv hIH3297 sm_0 rfl rfl rfl rfl (s_162 H3297 hIH3297 hJH3297) (fun H3513 r3514 => ?_)
            obtain ⟨hIH3513, hJH3513, w3515, w3516, w3517, m3518, p3519, p3520⟩ := r3514
            have e3521 : k0_2 = fZ H3513 0 2 := e3305.trans w3515.symm
            have e3522 : k0_13 = fZ H3513 0 13 := e3306.trans w3516.symm
            have e3523 : k0_19 = fZ H3513 0 19 := e3307.trans w3517.symm
            have m3524 : ∀ i, aZ H3513 3 i = aZ H 3 i := fun i => (m3518 3 i).trans (m3308 i)
            have ie3522 : k0_13.toInt = (fZ H3513 0 13).toInt := by rw [← e3522]
            refine g_aload_n rfl ?_
            refine g_gfk hIH3513 sm_0 rfl e3522 ?_
            refine g_if_eq (fun c3525 => ?_) (fun c3525 => ?_)
            · refine g_aload_n rfl ?_
              refine g_gfr hIH3513 sm_0 rfl ?_
              refine g_aload_n rfl ?_
              refine g_gfr hIH3513 sm_0 rfl ?_
              refine g_iconst (by decide) (fun v3526 kv3526 => ?_)
              refine g_iaload hIH3513 sm_3 rfl (by omega) (fun v3527 ev3527 lv3527 uv3527 => ?_)
              have qv3527 := JN_n30 hJH3513 (v := v3527) (by rw [ev3527, show v3526.toInt.toNat = 0 from by omega])
              have zv3527 : v3527.toInt = (aZ H 3 0).toInt := by rw [ev3527, show v3526.toInt.toNat = 0 from by omega, m3524]
              refine g_iload_n rfl ?_
              refine g_iastore hIH3513 sm_4 (by omega) (gz_any _) (fun H3528 eH3528 hIH3528 => ?_)
              have hJH3528 : JN H3528 := JN_sA (by decide) eH3528 hJH3513
              have e3529 : k0_2 = fZ H3528 0 2 := by rw [eH3528, fZ_sA]; exact e3521
              have e3530 : k0_13 = fZ H3528 0 13 := by rw [eH3528, fZ_sA]; exact e3522
              have e3531 : k0_19 = fZ H3528 0 19 := by rw [eH3528, fZ_sA]; exact e3523
              have m3532 : ∀ i, aZ H3528 3 i = aZ H 3 i := fun i => (by rw [eH3528, aZ_sA_nc (by omega)] : aZ H3528 3 i = aZ H3513 3 i).trans (m3524 i)
              have jj3533_8 : (fZ H3528 0 8).toInt = (fZ H3513 0 8).toInt := by rw [eH3528, fZ_sA]
              have jj3534_10 : (fZ H3528 0 10).toInt = (fZ H3513 0 10).toInt := by rw [eH3528, fZ_sA]
              have jj3535_8 : (fZ H3528 0 8).toInt = (fZ H3513 0 8).toInt := by rw [eH3528, fZ_sA]
              have ie3530 : k0_13.toInt = (fZ H3528 0 13).toInt := by rw [← e3530]
              refine g_aload_n rfl ?_
              refine g_gfr hIH3528 sm_0 rfl ?_
              refine g_iconst (by decide) (fun v3536 kv3536 => ?_)
              refine g_dup2 rfl ?_
              refine g_iaload hIH3528 sm_3 rfl (by omega) (fun v3537 ev3537 lv3537 uv3537 => ?_)
              have qv3537 := JN_n30 hJH3528 (v := v3537) (by rw [ev3537, show v3536.toInt.toNat = 0 from by omega])
              have zv3537 : v3537.toInt = (aZ H 3 0).toInt := by rw [ev3537, show v3536.toInt.toNat = 0 from by omega, m3532]
              refine g_iconst (by decide) (fun v3538 kv3538 => ?_)
              refine g_iadd (by omega) (fun v3539 ev3539 => ?_)
              refine g_iastore hIH3528 sm_3 (by omega) (gz_any _) (fun H3540 eH3540 hIH3540 => ?_)
              have hJH3540 : JN H3540 := JN_s3 hIH3528 hJH3528 (by omega) (by omega) (by omega) eH3540
              have e3541 : k0_2 = fZ H3540 0 2 := by rw [eH3540, fZ_sA]; exact e3529
              have e3542 : k0_13 = fZ H3540 0 13 := by rw [eH3540, fZ_sA]; exact e3530
              have e3543 : k0_19 = fZ H3540 0 19 := by rw [eH3540, fZ_sA]; exact e3531
              have jj3545_8 : (fZ H3540 0 8).toInt = (fZ H3528 0 8).toInt := by rw [eH3540, fZ_sA]
              have jj3546_10 : (fZ H3540 0 10).toInt = (fZ H3528 0 10).toInt := by rw [eH3540, fZ_sA]
              have jj3547_8 : (fZ H3540 0 8).toInt = (fZ H3528 0 8).toInt := by rw [eH3540, fZ_sA]
              have ie3542 : k0_13.toInt = (fZ H3540 0 13).toInt := by rw [← e3542]
              exact g_ret ⟨rfl, hIH3540, hJH3540, (e3541.symm.trans ek0_2), (e3543.symm.trans ek0_19), (by omega)⟩
            · exfalso; omega
          · refine g_aload_n rfl ?_
            refine g_iconst (by decide) (fun v3548 kv3548 => ?_)
            refine g_invvv hIH3297 sm_0 rfl rfl rfl rfl (s_161 v3548 (by omega) H3297 hIH3297 hJH3297) (fun H3549 r3550 => ?_)
            obtain ⟨hIH3549, hJH3549, w3551, w3552, w3553, w3554, m3555, p3556⟩ := r3550
            have e3557 : k0_2 = fZ H3549 0 2 := e3305.trans w3551.symm
            have e3558 : v3399 = fZ H3549 0 10 := ev3399.trans w3553.symm
            have e3559 : k0_19 = fZ H3549 0 19 := e3307.trans w3554.symm
            have iw3552 : (fZ H3549 0 8).toInt = (fZ H3297 0 8).toInt := by rw [w3552]
            have m3560 : ∀ i, aZ H3549 3 i = aZ H 3 i := fun i => (m3555 3 i).trans (m3308 i)
            have ie3558 : v3399.toInt = (fZ H3549 0 10).toInt := by rw [← e3558]
            refine g_nop ?_
            refine g_aload_n rfl ?_
            refine g_gfi hIH3549 sm_0 rfl (fun v3561 ev3561 lv3561 uv3561 => ?_)
            refine g_istore_n (l' := [(0, .ref 0), (1, .int v3561)]) rfl rfl ?_
            refine g_aload_n rfl ?_
            refine g_invvv hIH3549 sm_0 rfl rfl rfl rfl (s_162 H3549 hIH3549 hJH3549) (fun H3562 r3563 => ?_)
            obtain ⟨hIH3562, hJH3562, w3564, w3565, w3566, m3567, p3568, p3569⟩ := r3563
            have e3570 : k0_2 = fZ H3562 0 2 := e3557.trans w3564.symm
            have e3571 : k0_19 = fZ H3562 0 19 := e3559.trans w3566.symm
            have iw3565 : (fZ H3562 0 13).toInt = (fZ H3549 0 13).toInt := by rw [w3565]
            have m3572 : ∀ i, aZ H3562 3 i = aZ H 3 i := fun i => (m3567 3 i).trans (m3560 i)
            refine g_aload_n rfl ?_
            refine g_gfi hIH3562 sm_0 rfl (fun v3573 ev3573 lv3573 uv3573 => ?_)
            have iev3573 : v3573.toInt = (fZ H3562 0 13).toInt := by rw [← ev3573]
            refine g_if_eq (fun c3574 => ?_) (fun c3574 => ?_)
            · refine g_aload_n rfl ?_
              refine g_gfr hIH3562 sm_0 rfl ?_
              refine g_aload_n rfl ?_
              refine g_gfr hIH3562 sm_0 rfl ?_
              refine g_iconst (by decide) (fun v3575 kv3575 => ?_)
              refine g_iaload hIH3562 sm_3 rfl (by omega) (fun v3576 ev3576 lv3576 uv3576 => ?_)
              have qv3576 := JN_n30 hJH3562 (v := v3576) (by rw [ev3576, show v3575.toInt.toNat = 0 from by omega])
              have zv3576 : v3576.toInt = (aZ H 3 0).toInt := by rw [ev3576, show v3575.toInt.toNat = 0 from by omega, m3572]
              refine g_iload_n rfl ?_
              refine g_iastore hIH3562 sm_4 (by omega) (gz_any _) (fun H3577 eH3577 hIH3577 => ?_)
              have hJH3577 : JN H3577 := JN_sA (by decide) eH3577 hJH3562
              have e3578 : k0_2 = fZ H3577 0 2 := by rw [eH3577, fZ_sA]; exact e3570
              have e3579 : k0_19 = fZ H3577 0 19 := by rw [eH3577, fZ_sA]; exact e3571
              have e3580 : v3573 = fZ H3577 0 13 := by rw [eH3577, fZ_sA]; exact ev3573
              have m3581 : ∀ i, aZ H3577 3 i = aZ H 3 i := fun i => (by rw [eH3577, aZ_sA_nc (by omega)] : aZ H3577 3 i = aZ H3562 3 i).trans (m3572 i)
              have jj3582_8 : (fZ H3577 0 8).toInt = (fZ H3562 0 8).toInt := by rw [eH3577, fZ_sA]
              have jj3583_10 : (fZ H3577 0 10).toInt = (fZ H3562 0 10).toInt := by rw [eH3577, fZ_sA]
              have jj3584_8 : (fZ H3577 0 8).toInt = (fZ H3562 0 8).toInt := by rw [eH3577, fZ_sA]
              have ie3580 : v3573.toInt = (fZ H3577 0 13).toInt := by rw [← e3580]
              refine g_aload_n rfl ?_
              refine g_gfr hIH3577 sm_0 rfl ?_
              refine g_iconst (by decide) (fun v3585 kv3585 => ?_)
              refine g_dup2 rfl ?_
              refine g_iaload hIH3577 sm_3 rfl (by omega) (fun v3586 ev3586 lv3586 uv3586 => ?_)
              have qv3586 := JN_n30 hJH3577 (v := v3586) (by rw [ev3586, show v3585.toInt.toNat = 0 from by omega])
              have zv3586 : v3586.toInt = (aZ H 3 0).toInt := by rw [ev3586, show v3585.toInt.toNat = 0 from by omega, m3581]
              refine g_iconst (by decide) (fun v3587 kv3587 => ?_)
              refine g_iadd (by omega) (fun v3588 ev3588 => ?_)
              refine g_iastore hIH3577 sm_3 (by omega) (gz_any _) (fun H3589 eH3589 hIH3589 => ?_)
              have hJH3589 : JN H3589 := JN_s3 hIH3577 hJH3577 (by omega) (by omega) (by omega) eH3589
              have e3590 : k0_2 = fZ H3589 0 2 := by rw [eH3589, fZ_sA]; exact e3578
              have e3591 : k0_19 = fZ H3589 0 19 := by rw [eH3589, fZ_sA]; exact e3579
              have e3592 : v3573 = fZ H3589 0 13 := by rw [eH3589, fZ_sA]; exact e3580
              have jj3594_8 : (fZ H3589 0 8).toInt = (fZ H3577 0 8).toInt := by rw [eH3589, fZ_sA]
              have jj3595_10 : (fZ H3589 0 10).toInt = (fZ H3577 0 10).toInt := by rw [eH3589, fZ_sA]
              have jj3596_8 : (fZ H3589 0 8).toInt = (fZ H3577 0 8).toInt := by rw [eH3589, fZ_sA]
              have ie3592 : v3573.toInt = (fZ H3589 0 13).toInt := by rw [← e3592]
              exact g_ret ⟨rfl, hIH3589, hJH3589, (e3590.symm.trans ek0_2), (e3591.symm.trans ek0_19), (by omega)⟩
            · exact g_ret ⟨rfl, hIH3562, hJH3562, (e3570.symm.trans ek0_2), (e3571.symm.trans ek0_19), (by omega)⟩
        · refine g_nop ?_
          refine g_aload_n rfl ?_
          refine g_iconst (by decide) (fun v3597 kv3597 => ?_)
          refine g_invvv hIH3297 sm_0 rfl rfl rfl rfl (s_161 v3597 (by omega) H3297 hIH3297 hJH3297) (fun H3598 r3599 => ?_)
          obtain ⟨hIH3598, hJH3598, w3600, w3601, w3602, w3603, m3604, p3605⟩ := r3599
          have e3606 : k0_2 = fZ H3598 0 2 := e3305.trans w3600.symm
          have e3607 : v3399 = fZ H3598 0 10 := ev3399.trans w3602.symm
          have e3608 : k0_19 = fZ H3598 0 19 := e3307.trans w3603.symm
          have iw3601 : (fZ H3598 0 8).toInt = (fZ H3297 0 8).toInt := by rw [w3601]
          have m3609 : ∀ i, aZ H3598 3 i = aZ H 3 i := fun i => (m3604 3 i).trans (m3308 i)
          have ie3607 : v3399.toInt = (fZ H3598 0 10).toInt := by rw [← e3607]
          refine g_nop ?_
          refine g_aload_n rfl ?_
          refine g_invvi hIH3598 sm_0 rfl rfl rfl rfl (s_164 H3598 hIH3598 hJH3598) (fun v3612 H3610 r3611 => ?_)
          obtain ⟨rfl, bv3612⟩ := r3611
          refine g_iconst (by decide) (fun v3613 kv3613 => ?_)
          refine g_if2_eq (fun c3614 => ?_) (fun c3614 => ?_)
          · refine g_aload_n rfl ?_
            refine g_gfi hIH3598 sm_0 rfl (fun v3615 ev3615 lv3615 uv3615 => ?_)
            refine g_istore_n (l' := [(0, .ref 0), (1, .int v3615)]) rfl rfl ?_
            refine g_aload_n rfl ?_
            refine g_invvv hIH3598 sm_0 rfl rfl rfl rfl (s_162 H3598 hIH3598 hJH3598) (fun H3616 r3617 => ?_)
            obtain ⟨hIH3616, hJH3616, w3618, w3619, w3620, m3621, p3622, p3623⟩ := r3617
            have e3624 : k0_2 = fZ H3616 0 2 := e3606.trans w3618.symm
            have e3625 : k0_19 = fZ H3616 0 19 := e3608.trans w3620.symm
            have iw3619 : (fZ H3616 0 13).toInt = (fZ H3598 0 13).toInt := by rw [w3619]
            have m3626 : ∀ i, aZ H3616 3 i = aZ H 3 i := fun i => (m3621 3 i).trans (m3609 i)
            refine g_aload_n rfl ?_
            refine g_gfi hIH3616 sm_0 rfl (fun v3627 ev3627 lv3627 uv3627 => ?_)
            have iev3627 : v3627.toInt = (fZ H3616 0 13).toInt := by rw [← ev3627]
            refine g_if_eq (fun c3628 => ?_) (fun c3628 => ?_)
            · refine g_aload_n rfl ?_
              refine g_gfr hIH3616 sm_0 rfl ?_
              refine g_aload_n rfl ?_
              refine g_gfr hIH3616 sm_0 rfl ?_
              refine g_iconst (by decide) (fun v3629 kv3629 => ?_)
              refine g_iaload hIH3616 sm_3 rfl (by omega) (fun v3630 ev3630 lv3630 uv3630 => ?_)
              have qv3630 := JN_n30 hJH3616 (v := v3630) (by rw [ev3630, show v3629.toInt.toNat = 0 from by omega])
              have zv3630 : v3630.toInt = (aZ H 3 0).toInt := by rw [ev3630, show v3629.toInt.toNat = 0 from by omega, m3626]
              refine g_iload_n rfl ?_
              refine g_iastore hIH3616 sm_4 (by omega) (gz_any _) (fun H3631 eH3631 hIH3631 => ?_)
              have hJH3631 : JN H3631 := JN_sA (by decide) eH3631 hJH3616
              have e3632 : k0_2 = fZ H3631 0 2 := by rw [eH3631, fZ_sA]; exact e3624
              have e3633 : k0_19 = fZ H3631 0 19 := by rw [eH3631, fZ_sA]; exact e3625
              have e3634 : v3627 = fZ H3631 0 13 := by rw [eH3631, fZ_sA]; exact ev3627
              have m3635 : ∀ i, aZ H3631 3 i = aZ H 3 i := fun i => (by rw [eH3631, aZ_sA_nc (by omega)] : aZ H3631 3 i = aZ H3616 3 i).trans (m3626 i)
              have jj3636_8 : (fZ H3631 0 8).toInt = (fZ H3616 0 8).toInt := by rw [eH3631, fZ_sA]
              have jj3637_10 : (fZ H3631 0 10).toInt = (fZ H3616 0 10).toInt := by rw [eH3631, fZ_sA]
              have jj3638_8 : (fZ H3631 0 8).toInt = (fZ H3616 0 8).toInt := by rw [eH3631, fZ_sA]
              have ie3634 : v3627.toInt = (fZ H3631 0 13).toInt := by rw [← e3634]
              refine g_aload_n rfl ?_
              refine g_gfr hIH3631 sm_0 rfl ?_
              refine g_iconst (by decide) (fun v3639 kv3639 => ?_)
              refine g_dup2 rfl ?_
              refine g_iaload hIH3631 sm_3 rfl (by omega) (fun v3640 ev3640 lv3640 uv3640 => ?_)
              have qv3640 := JN_n30 hJH3631 (v := v3640) (by rw [ev3640, show v3639.toInt.toNat = 0 from by omega])
              have zv3640 : v3640.toInt = (aZ H 3 0).toInt := by rw [ev3640, show v3639.toInt.toNat = 0 from by omega, m3635]
              refine g_iconst (by decide) (fun v3641 kv3641 => ?_)
              refine g_iadd (by omega) (fun v3642 ev3642 => ?_)
              refine g_iastore hIH3631 sm_3 (by omega) (gz_any _) (fun H3643 eH3643 hIH3643 => ?_)
              have hJH3643 : JN H3643 := JN_s3 hIH3631 hJH3631 (by omega) (by omega) (by omega) eH3643
              have e3644 : k0_2 = fZ H3643 0 2 := by rw [eH3643, fZ_sA]; exact e3632
              have e3645 : k0_19 = fZ H3643 0 19 := by rw [eH3643, fZ_sA]; exact e3633
              have e3646 : v3627 = fZ H3643 0 13 := by rw [eH3643, fZ_sA]; exact e3634
              have jj3648_8 : (fZ H3643 0 8).toInt = (fZ H3631 0 8).toInt := by rw [eH3643, fZ_sA]
              have jj3649_10 : (fZ H3643 0 10).toInt = (fZ H3631 0 10).toInt := by rw [eH3643, fZ_sA]
              have jj3650_8 : (fZ H3643 0 8).toInt = (fZ H3631 0 8).toInt := by rw [eH3643, fZ_sA]
              have ie3646 : v3627.toInt = (fZ H3643 0 13).toInt := by rw [← e3646]
              exact g_ret ⟨rfl, hIH3643, hJH3643, (e3644.symm.trans ek0_2), (e3645.symm.trans ek0_19), (by omega)⟩
            · exact g_ret ⟨rfl, hIH3616, hJH3616, (e3624.symm.trans ek0_2), (e3625.symm.trans ek0_19), (by omega)⟩
          · refine g_aload_n rfl ?_
            refine g_iconst (by decide) (fun v3651 kv3651 => ?_)
            refine g_invvv hIH3598 sm_0 rfl rfl rfl rfl (s_161 v3651 (by omega) H3598 hIH3598 hJH3598) (fun H3652 r3653 => ?_)
            obtain ⟨hIH3652, hJH3652, w3654, w3655, w3656, w3657, m3658, p3659⟩ := r3653
            have e3660 : k0_2 = fZ H3652 0 2 := e3606.trans w3654.symm
            have e3661 : v3399 = fZ H3652 0 10 := e3607.trans w3656.symm
            have e3662 : k0_19 = fZ H3652 0 19 := e3608.trans w3657.symm
            have iw3655 : (fZ H3652 0 8).toInt = (fZ H3598 0 8).toInt := by rw [w3655]
            have m3663 : ∀ i, aZ H3652 3 i = aZ H 3 i := fun i => (m3658 3 i).trans (m3609 i)
            have ie3661 : v3399.toInt = (fZ H3652 0 10).toInt := by rw [← e3661]
            refine g_nop ?_
            refine g_aload_n rfl ?_
            refine g_gfi hIH3652 sm_0 rfl (fun v3664 ev3664 lv3664 uv3664 => ?_)
            refine g_istore_n (l' := [(0, .ref 0), (1, .int v3664)]) rfl rfl ?_
            refine g_aload_n rfl ?_
            refine g_invvv hIH3652 sm_0 rfl rfl rfl rfl (s_162 H3652 hIH3652 hJH3652) (fun H3665 r3666 => ?_)
            obtain ⟨hIH3665, hJH3665, w3667, w3668, w3669, m3670, p3671, p3672⟩ := r3666
            have e3673 : k0_2 = fZ H3665 0 2 := e3660.trans w3667.symm
            have e3674 : k0_19 = fZ H3665 0 19 := e3662.trans w3669.symm
            have iw3668 : (fZ H3665 0 13).toInt = (fZ H3652 0 13).toInt := by rw [w3668]
            have m3675 : ∀ i, aZ H3665 3 i = aZ H 3 i := fun i => (m3670 3 i).trans (m3663 i)
            refine g_aload_n rfl ?_
            refine g_gfi hIH3665 sm_0 rfl (fun v3676 ev3676 lv3676 uv3676 => ?_)
            have iev3676 : v3676.toInt = (fZ H3665 0 13).toInt := by rw [← ev3676]
            refine g_if_eq (fun c3677 => ?_) (fun c3677 => ?_)
            · refine g_aload_n rfl ?_
              refine g_gfr hIH3665 sm_0 rfl ?_
              refine g_aload_n rfl ?_
              refine g_gfr hIH3665 sm_0 rfl ?_
              refine g_iconst (by decide) (fun v3678 kv3678 => ?_)
              refine g_iaload hIH3665 sm_3 rfl (by omega) (fun v3679 ev3679 lv3679 uv3679 => ?_)
              have qv3679 := JN_n30 hJH3665 (v := v3679) (by rw [ev3679, show v3678.toInt.toNat = 0 from by omega])
              have zv3679 : v3679.toInt = (aZ H 3 0).toInt := by rw [ev3679, show v3678.toInt.toNat = 0 from by omega, m3675]
              refine g_iload_n rfl ?_
              refine g_iastore hIH3665 sm_4 (by omega) (gz_any _) (fun H3680 eH3680 hIH3680 => ?_)
              have hJH3680 : JN H3680 := JN_sA (by decide) eH3680 hJH3665
              have e3681 : k0_2 = fZ H3680 0 2 := by rw [eH3680, fZ_sA]; exact e3673
              have e3682 : k0_19 = fZ H3680 0 19 := by rw [eH3680, fZ_sA]; exact e3674
              have e3683 : v3676 = fZ H3680 0 13 := by rw [eH3680, fZ_sA]; exact ev3676
              have m3684 : ∀ i, aZ H3680 3 i = aZ H 3 i := fun i => (by rw [eH3680, aZ_sA_nc (by omega)] : aZ H3680 3 i = aZ H3665 3 i).trans (m3675 i)
              have jj3685_8 : (fZ H3680 0 8).toInt = (fZ H3665 0 8).toInt := by rw [eH3680, fZ_sA]
              have jj3686_10 : (fZ H3680 0 10).toInt = (fZ H3665 0 10).toInt := by rw [eH3680, fZ_sA]
              have jj3687_8 : (fZ H3680 0 8).toInt = (fZ H3665 0 8).toInt := by rw [eH3680, fZ_sA]
              have ie3683 : v3676.toInt = (fZ H3680 0 13).toInt := by rw [← e3683]
              refine g_aload_n rfl ?_
              refine g_gfr hIH3680 sm_0 rfl ?_
              refine g_iconst (by decide) (fun v3688 kv3688 => ?_)
              refine g_dup2 rfl ?_
              refine g_iaload hIH3680 sm_3 rfl (by omega) (fun v3689 ev3689 lv3689 uv3689 => ?_)
              have qv3689 := JN_n30 hJH3680 (v := v3689) (by rw [ev3689, show v3688.toInt.toNat = 0 from by omega])
              have zv3689 : v3689.toInt = (aZ H 3 0).toInt := by rw [ev3689, show v3688.toInt.toNat = 0 from by omega, m3684]
              refine g_iconst (by decide) (fun v3690 kv3690 => ?_)
              refine g_iadd (by omega) (fun v3691 ev3691 => ?_)
              refine g_iastore hIH3680 sm_3 (by omega) (gz_any _) (fun H3692 eH3692 hIH3692 => ?_)
              have hJH3692 : JN H3692 := JN_s3 hIH3680 hJH3680 (by omega) (by omega) (by omega) eH3692
              have e3693 : k0_2 = fZ H3692 0 2 := by rw [eH3692, fZ_sA]; exact e3681
              have e3694 : k0_19 = fZ H3692 0 19 := by rw [eH3692, fZ_sA]; exact e3682
              have e3695 : v3676 = fZ H3692 0 13 := by rw [eH3692, fZ_sA]; exact e3683
              have jj3697_8 : (fZ H3692 0 8).toInt = (fZ H3680 0 8).toInt := by rw [eH3692, fZ_sA]
              have jj3698_10 : (fZ H3692 0 10).toInt = (fZ H3680 0 10).toInt := by rw [eH3692, fZ_sA]
              have jj3699_8 : (fZ H3692 0 8).toInt = (fZ H3680 0 8).toInt := by rw [eH3692, fZ_sA]
              have ie3695 : v3676.toInt = (fZ H3692 0 13).toInt := by rw [← e3695]
              exact g_ret ⟨rfl, hIH3692, hJH3692, (e3693.symm.trans ek0_2), (e3694.symm.trans ek0_19), (by omega)⟩
            · exact g_ret ⟨rfl, hIH3665, hJH3665, (e3673.symm.trans ek0_2), (e3674.symm.trans ek0_19), (by omega)⟩
  · refine g_aload_n rfl ?_
    refine g_iconst (by decide) (fun v3700 kv3700 => ?_)
    refine g_invvv hI sm_0 rfl rfl rfl rfl (s_161 v3700 (by omega) H hI hJ) (fun H3701 r3702 => ?_)
    obtain ⟨hIH3701, hJH3701, w3703, w3704, w3705, w3706, m3707, p3708⟩ := r3702
    have e3709 : k0_2 = fZ H3701 0 2 := ek0_2.trans w3703.symm
    have e3710 : k0_8 = fZ H3701 0 8 := ek0_8.trans w3704.symm
    have e3711 : k0_19 = fZ H3701 0 19 := ek0_19.trans w3706.symm
    have iw3705 : (fZ H3701 0 10).toInt = (fZ H 0 10).toInt := by rw [w3705]
    have m3712 : ∀ i, aZ H3701 3 i = aZ H 3 i := fun i => (m3707 3 i).trans (mk3 i)
    have ie3710 : k0_8.toInt = (fZ H3701 0 8).toInt := by rw [← e3710]
    refine g_nop ?_
    refine g_aload_n rfl ?_
    refine g_invvv hIH3701 sm_0 rfl rfl rfl rfl (s_162 H3701 hIH3701 hJH3701) (fun H3713 r3714 => ?_)
    obtain ⟨hIH3713, hJH3713, w3715, w3716, w3717, m3718, p3719, p3720⟩ := r3714
    have e3721 : k0_2 = fZ H3713 0 2 := e3709.trans w3715.symm
    have e3722 : k0_19 = fZ H3713 0 19 := e3711.trans w3717.symm
    have iw3716 : (fZ H3713 0 13).toInt = (fZ H3701 0 13).toInt := by rw [w3716]
    have m3723 : ∀ i, aZ H3713 3 i = aZ H 3 i := fun i => (m3718 3 i).trans (m3712 i)
    refine g_aload_n rfl ?_
    refine g_gfi hIH3713 sm_0 rfl (fun v3724 ev3724 lv3724 uv3724 => ?_)
    have iev3724 : v3724.toInt = (fZ H3713 0 13).toInt := by rw [← ev3724]
    refine g_if_ne (fun c3725 => ?_) (fun c3725 => ?_)
    · refine g_aload_n rfl ?_
      refine g_invvi hIH3713 sm_0 rfl rfl rfl rfl (s_164 H3713 hIH3713 hJH3713) (fun v3728 H3726 r3727 => ?_)
      obtain ⟨rfl, bv3728⟩ := r3727
      refine g_iconst (by decide) (fun v3729 kv3729 => ?_)
      refine g_if2_eq (fun c3730 => ?_) (fun c3730 => ?_)
      · refine g_aload_n rfl ?_
        refine g_gfi hIH3713 sm_0 rfl (fun v3731 ev3731 lv3731 uv3731 => ?_)
        refine g_istore_n (l' := [(0, .ref 0), (1, .int v3731)]) rfl rfl ?_
        refine g_aload_n rfl ?_
        refine g_invvv hIH3713 sm_0 rfl rfl rfl rfl (s_162 H3713 hIH3713 hJH3713) (fun H3732 r3733 => ?_)
        obtain ⟨hIH3732, hJH3732, w3734, w3735, w3736, m3737, p3738, p3739⟩ := r3733
        have e3740 : k0_2 = fZ H3732 0 2 := e3721.trans w3734.symm
        have e3741 : v3724 = fZ H3732 0 13 := ev3724.trans w3735.symm
        have e3742 : k0_19 = fZ H3732 0 19 := e3722.trans w3736.symm
        have m3743 : ∀ i, aZ H3732 3 i = aZ H 3 i := fun i => (m3737 3 i).trans (m3723 i)
        have ie3741 : v3724.toInt = (fZ H3732 0 13).toInt := by rw [← e3741]
        refine g_aload_n rfl ?_
        refine g_gfk hIH3732 sm_0 rfl e3741 ?_
        refine g_if_eq (fun c3744 => ?_) (fun c3744 => ?_)
        · refine g_aload_n rfl ?_
          refine g_gfr hIH3732 sm_0 rfl ?_
          refine g_aload_n rfl ?_
          refine g_gfr hIH3732 sm_0 rfl ?_
          refine g_iconst (by decide) (fun v3745 kv3745 => ?_)
          refine g_iaload hIH3732 sm_3 rfl (by omega) (fun v3746 ev3746 lv3746 uv3746 => ?_)
          have qv3746 := JN_n30 hJH3732 (v := v3746) (by rw [ev3746, show v3745.toInt.toNat = 0 from by omega])
          have zv3746 : v3746.toInt = (aZ H 3 0).toInt := by rw [ev3746, show v3745.toInt.toNat = 0 from by omega, m3743]
          refine g_iload_n rfl ?_
          refine g_iastore hIH3732 sm_4 (by omega) (gz_any _) (fun H3747 eH3747 hIH3747 => ?_)
          have hJH3747 : JN H3747 := JN_sA (by decide) eH3747 hJH3732
          have e3748 : k0_2 = fZ H3747 0 2 := by rw [eH3747, fZ_sA]; exact e3740
          have e3749 : v3724 = fZ H3747 0 13 := by rw [eH3747, fZ_sA]; exact e3741
          have e3750 : k0_19 = fZ H3747 0 19 := by rw [eH3747, fZ_sA]; exact e3742
          have m3751 : ∀ i, aZ H3747 3 i = aZ H 3 i := fun i => (by rw [eH3747, aZ_sA_nc (by omega)] : aZ H3747 3 i = aZ H3732 3 i).trans (m3743 i)
          have jj3752_8 : (fZ H3747 0 8).toInt = (fZ H3732 0 8).toInt := by rw [eH3747, fZ_sA]
          have jj3753_10 : (fZ H3747 0 10).toInt = (fZ H3732 0 10).toInt := by rw [eH3747, fZ_sA]
          have jj3754_8 : (fZ H3747 0 8).toInt = (fZ H3732 0 8).toInt := by rw [eH3747, fZ_sA]
          have ie3749 : v3724.toInt = (fZ H3747 0 13).toInt := by rw [← e3749]
          refine g_aload_n rfl ?_
          refine g_gfr hIH3747 sm_0 rfl ?_
          refine g_iconst (by decide) (fun v3755 kv3755 => ?_)
          refine g_dup2 rfl ?_
          refine g_iaload hIH3747 sm_3 rfl (by omega) (fun v3756 ev3756 lv3756 uv3756 => ?_)
          have qv3756 := JN_n30 hJH3747 (v := v3756) (by rw [ev3756, show v3755.toInt.toNat = 0 from by omega])
          have zv3756 : v3756.toInt = (aZ H 3 0).toInt := by rw [ev3756, show v3755.toInt.toNat = 0 from by omega, m3751]
          refine g_iconst (by decide) (fun v3757 kv3757 => ?_)
          refine g_iadd (by omega) (fun v3758 ev3758 => ?_)
          refine g_iastore hIH3747 sm_3 (by omega) (gz_any _) (fun H3759 eH3759 hIH3759 => ?_)
          have hJH3759 : JN H3759 := JN_s3 hIH3747 hJH3747 (by omega) (by omega) (by omega) eH3759
          have e3760 : k0_2 = fZ H3759 0 2 := by rw [eH3759, fZ_sA]; exact e3748
          have e3761 : v3724 = fZ H3759 0 13 := by rw [eH3759, fZ_sA]; exact e3749
          have e3762 : k0_19 = fZ H3759 0 19 := by rw [eH3759, fZ_sA]; exact e3750
          have jj3764_8 : (fZ H3759 0 8).toInt = (fZ H3747 0 8).toInt := by rw [eH3759, fZ_sA]
          have jj3765_10 : (fZ H3759 0 10).toInt = (fZ H3747 0 10).toInt := by rw [eH3759, fZ_sA]
          have jj3766_8 : (fZ H3759 0 8).toInt = (fZ H3747 0 8).toInt := by rw [eH3759, fZ_sA]
          have ie3761 : v3724.toInt = (fZ H3759 0 13).toInt := by rw [← e3761]
          exact g_ret ⟨rfl, hIH3759, hJH3759, (e3760.symm.trans ek0_2), (e3762.symm.trans ek0_19), (by omega)⟩
        · exact g_ret ⟨rfl, hIH3732, hJH3732, (e3740.symm.trans ek0_2), (e3742.symm.trans ek0_19), (by omega)⟩
      · refine g_aload_n rfl ?_
        refine g_iconst (by decide) (fun v3767 kv3767 => ?_)
        refine g_invvv hIH3713 sm_0 rfl rfl rfl rfl (s_161 v3767 (by omega) H3713 hIH3713 hJH3713) (fun H3768 r3769 => ?_)
        obtain ⟨hIH3768, hJH3768, w3770, w3771, w3772, w3773, m3774, p3775⟩ := r3769
        have e3776 : k0_2 = fZ H3768 0 2 := e3721.trans w3770.symm
        have e3777 : k0_19 = fZ H3768 0 19 := e3722.trans w3773.symm
        have iw3771 : (fZ H3768 0 8).toInt = (fZ H3713 0 8).toInt := by rw [w3771]
        have iw3772 : (fZ H3768 0 10).toInt = (fZ H3713 0 10).toInt := by rw [w3772]
        have m3778 : ∀ i, aZ H3768 3 i = aZ H 3 i := fun i => (m3774 3 i).trans (m3723 i)
        refine g_nop ?_
        refine g_aload_n rfl ?_
        refine g_gfi hIH3768 sm_0 rfl (fun v3779 ev3779 lv3779 uv3779 => ?_)
        refine g_istore_n (l' := [(0, .ref 0), (1, .int v3779)]) rfl rfl ?_
        refine g_aload_n rfl ?_
        refine g_invvv hIH3768 sm_0 rfl rfl rfl rfl (s_162 H3768 hIH3768 hJH3768) (fun H3780 r3781 => ?_)
        obtain ⟨hIH3780, hJH3780, w3782, w3783, w3784, m3785, p3786, p3787⟩ := r3781
        have e3788 : k0_2 = fZ H3780 0 2 := e3776.trans w3782.symm
        have e3789 : k0_19 = fZ H3780 0 19 := e3777.trans w3784.symm
        have iw3783 : (fZ H3780 0 13).toInt = (fZ H3768 0 13).toInt := by rw [w3783]
        have m3790 : ∀ i, aZ H3780 3 i = aZ H 3 i := fun i => (m3785 3 i).trans (m3778 i)
        refine g_aload_n rfl ?_
        refine g_gfi hIH3780 sm_0 rfl (fun v3791 ev3791 lv3791 uv3791 => ?_)
        have iev3791 : v3791.toInt = (fZ H3780 0 13).toInt := by rw [← ev3791]
        refine g_if_eq (fun c3792 => ?_) (fun c3792 => ?_)
        · refine g_aload_n rfl ?_
          refine g_gfr hIH3780 sm_0 rfl ?_
          refine g_aload_n rfl ?_
          refine g_gfr hIH3780 sm_0 rfl ?_
          refine g_iconst (by decide) (fun v3793 kv3793 => ?_)
          refine g_iaload hIH3780 sm_3 rfl (by omega) (fun v3794 ev3794 lv3794 uv3794 => ?_)
          have qv3794 := JN_n30 hJH3780 (v := v3794) (by rw [ev3794, show v3793.toInt.toNat = 0 from by omega])
          have zv3794 : v3794.toInt = (aZ H 3 0).toInt := by rw [ev3794, show v3793.toInt.toNat = 0 from by omega, m3790]
          refine g_iload_n rfl ?_
          refine g_iastore hIH3780 sm_4 (by omega) (gz_any _) (fun H3795 eH3795 hIH3795 => ?_)
          have hJH3795 : JN H3795 := JN_sA (by decide) eH3795 hJH3780
          have e3796 : k0_2 = fZ H3795 0 2 := by rw [eH3795, fZ_sA]; exact e3788
          have e3797 : k0_19 = fZ H3795 0 19 := by rw [eH3795, fZ_sA]; exact e3789
          have e3798 : v3791 = fZ H3795 0 13 := by rw [eH3795, fZ_sA]; exact ev3791
          have m3799 : ∀ i, aZ H3795 3 i = aZ H 3 i := fun i => (by rw [eH3795, aZ_sA_nc (by omega)] : aZ H3795 3 i = aZ H3780 3 i).trans (m3790 i)
          have jj3800_8 : (fZ H3795 0 8).toInt = (fZ H3780 0 8).toInt := by rw [eH3795, fZ_sA]
          have jj3801_10 : (fZ H3795 0 10).toInt = (fZ H3780 0 10).toInt := by rw [eH3795, fZ_sA]
          have jj3802_8 : (fZ H3795 0 8).toInt = (fZ H3780 0 8).toInt := by rw [eH3795, fZ_sA]
          have ie3798 : v3791.toInt = (fZ H3795 0 13).toInt := by rw [← e3798]
          refine g_aload_n rfl ?_
          refine g_gfr hIH3795 sm_0 rfl ?_
          refine g_iconst (by decide) (fun v3803 kv3803 => ?_)
          refine g_dup2 rfl ?_
          refine g_iaload hIH3795 sm_3 rfl (by omega) (fun v3804 ev3804 lv3804 uv3804 => ?_)
          have qv3804 := JN_n30 hJH3795 (v := v3804) (by rw [ev3804, show v3803.toInt.toNat = 0 from by omega])
          have zv3804 : v3804.toInt = (aZ H 3 0).toInt := by rw [ev3804, show v3803.toInt.toNat = 0 from by omega, m3799]
          refine g_iconst (by decide) (fun v3805 kv3805 => ?_)
          refine g_iadd (by omega) (fun v3806 ev3806 => ?_)
          refine g_iastore hIH3795 sm_3 (by omega) (gz_any _) (fun H3807 eH3807 hIH3807 => ?_)
          have hJH3807 : JN H3807 := JN_s3 hIH3795 hJH3795 (by omega) (by omega) (by omega) eH3807
          have e3808 : k0_2 = fZ H3807 0 2 := by rw [eH3807, fZ_sA]; exact e3796
          have e3809 : k0_19 = fZ H3807 0 19 := by rw [eH3807, fZ_sA]; exact e3797
          have e3810 : v3791 = fZ H3807 0 13 := by rw [eH3807, fZ_sA]; exact e3798
          have jj3812_8 : (fZ H3807 0 8).toInt = (fZ H3795 0 8).toInt := by rw [eH3807, fZ_sA]
          have jj3813_10 : (fZ H3807 0 10).toInt = (fZ H3795 0 10).toInt := by rw [eH3807, fZ_sA]
          have jj3814_8 : (fZ H3807 0 8).toInt = (fZ H3795 0 8).toInt := by rw [eH3807, fZ_sA]
          have ie3810 : v3791.toInt = (fZ H3807 0 13).toInt := by rw [← e3810]
          exact g_ret ⟨rfl, hIH3807, hJH3807, (e3808.symm.trans ek0_2), (e3809.symm.trans ek0_19), (by omega)⟩
        · exact g_ret ⟨rfl, hIH3780, hJH3780, (e3788.symm.trans ek0_2), (e3789.symm.trans ek0_19), (by omega)⟩
    · refine g_aload_n rfl ?_
      refine g_gfi hIH3713 sm_0 rfl (fun v3815 ev3815 lv3815 uv3815 => ?_)
      have iev3815 : v3815.toInt = (fZ H3713 0 10).toInt := by rw [← ev3815]
      refine g_if_ne (fun c3816 => ?_) (fun c3816 => ?_)
      · refine g_aload_n rfl ?_
        refine g_iconst (by decide) (fun v3817 kv3817 => ?_)
        refine g_invvv hIH3713 sm_0 rfl rfl rfl rfl (s_161 v3817 (by omega) H3713 hIH3713 hJH3713) (fun H3818 r3819 => ?_)
        obtain ⟨hIH3818, hJH3818, w3820, w3821, w3822, w3823, m3824, p3825⟩ := r3819
        have e3826 : k0_2 = fZ H3818 0 2 := e3721.trans w3820.symm
        have e3827 : v3815 = fZ H3818 0 10 := ev3815.trans w3822.symm
        have e3828 : k0_19 = fZ H3818 0 19 := e3722.trans w3823.symm
        have iw3821 : (fZ H3818 0 8).toInt = (fZ H3713 0 8).toInt := by rw [w3821]
        have m3829 : ∀ i, aZ H3818 3 i = aZ H 3 i := fun i => (m3824 3 i).trans (m3723 i)
        have ie3827 : v3815.toInt = (fZ H3818 0 10).toInt := by rw [← e3827]
        refine g_nop ?_
        refine g_aload_n rfl ?_
        refine g_invvi hIH3818 sm_0 rfl rfl rfl rfl (s_164 H3818 hIH3818 hJH3818) (fun v3832 H3830 r3831 => ?_)
        obtain ⟨rfl, bv3832⟩ := r3831
        refine g_iconst (by decide) (fun v3833 kv3833 => ?_)
        refine g_if2_eq (fun c3834 => ?_) (fun c3834 => ?_)
        · refine g_aload_n rfl ?_
          refine g_gfi hIH3818 sm_0 rfl (fun v3835 ev3835 lv3835 uv3835 => ?_)
          refine g_istore_n (l' := [(0, .ref 0), (1, .int v3835)]) rfl rfl ?_
          refine g_aload_n rfl ?_
          refine g_invvv hIH3818 sm_0 rfl rfl rfl rfl (s_162 H3818 hIH3818 hJH3818) (fun H3836 r3837 => ?_)
          obtain ⟨hIH3836, hJH3836, w3838, w3839, w3840, m3841, p3842, p3843⟩ := r3837
          have e3844 : k0_2 = fZ H3836 0 2 := e3826.trans w3838.symm
          have e3845 : k0_19 = fZ H3836 0 19 := e3828.trans w3840.symm
          have iw3839 : (fZ H3836 0 13).toInt = (fZ H3818 0 13).toInt := by rw [w3839]
          have m3846 : ∀ i, aZ H3836 3 i = aZ H 3 i := fun i => (m3841 3 i).trans (m3829 i)
          refine g_aload_n rfl ?_
          refine g_gfi hIH3836 sm_0 rfl (fun v3847 ev3847 lv3847 uv3847 => ?_)
          have iev3847 : v3847.toInt = (fZ H3836 0 13).toInt := by rw [← ev3847]
          refine g_if_eq (fun c3848 => ?_) (fun c3848 => ?_)
          · refine g_aload_n rfl ?_
            refine g_gfr hIH3836 sm_0 rfl ?_
            refine g_aload_n rfl ?_
            refine g_gfr hIH3836 sm_0 rfl ?_
            refine g_iconst (by decide) (fun v3849 kv3849 => ?_)
            refine g_iaload hIH3836 sm_3 rfl (by omega) (fun v3850 ev3850 lv3850 uv3850 => ?_)
            have qv3850 := JN_n30 hJH3836 (v := v3850) (by rw [ev3850, show v3849.toInt.toNat = 0 from by omega])
            have zv3850 : v3850.toInt = (aZ H 3 0).toInt := by rw [ev3850, show v3849.toInt.toNat = 0 from by omega, m3846]
            refine g_iload_n rfl ?_
            refine g_iastore hIH3836 sm_4 (by omega) (gz_any _) (fun H3851 eH3851 hIH3851 => ?_)
            have hJH3851 : JN H3851 := JN_sA (by decide) eH3851 hJH3836
            have e3852 : k0_2 = fZ H3851 0 2 := by rw [eH3851, fZ_sA]; exact e3844
            have e3853 : k0_19 = fZ H3851 0 19 := by rw [eH3851, fZ_sA]; exact e3845
            have e3854 : v3847 = fZ H3851 0 13 := by rw [eH3851, fZ_sA]; exact ev3847
            have m3855 : ∀ i, aZ H3851 3 i = aZ H 3 i := fun i => (by rw [eH3851, aZ_sA_nc (by omega)] : aZ H3851 3 i = aZ H3836 3 i).trans (m3846 i)
            have jj3856_8 : (fZ H3851 0 8).toInt = (fZ H3836 0 8).toInt := by rw [eH3851, fZ_sA]
            have jj3857_10 : (fZ H3851 0 10).toInt = (fZ H3836 0 10).toInt := by rw [eH3851, fZ_sA]
            have jj3858_8 : (fZ H3851 0 8).toInt = (fZ H3836 0 8).toInt := by rw [eH3851, fZ_sA]
            have ie3854 : v3847.toInt = (fZ H3851 0 13).toInt := by rw [← e3854]
            refine g_aload_n rfl ?_
            refine g_gfr hIH3851 sm_0 rfl ?_
            refine g_iconst (by decide) (fun v3859 kv3859 => ?_)
            refine g_dup2 rfl ?_
            refine g_iaload hIH3851 sm_3 rfl (by omega) (fun v3860 ev3860 lv3860 uv3860 => ?_)
            have qv3860 := JN_n30 hJH3851 (v := v3860) (by rw [ev3860, show v3859.toInt.toNat = 0 from by omega])
            have zv3860 : v3860.toInt = (aZ H 3 0).toInt := by rw [ev3860, show v3859.toInt.toNat = 0 from by omega, m3855]
            refine g_iconst (by decide) (fun v3861 kv3861 => ?_)
            refine g_iadd (by omega) (fun v3862 ev3862 => ?_)
            refine g_iastore hIH3851 sm_3 (by omega) (gz_any _) (fun H3863 eH3863 hIH3863 => ?_)
            have hJH3863 : JN H3863 := JN_s3 hIH3851 hJH3851 (by omega) (by omega) (by omega) eH3863
            have e3864 : k0_2 = fZ H3863 0 2 := by rw [eH3863, fZ_sA]; exact e3852
            have e3865 : k0_19 = fZ H3863 0 19 := by rw [eH3863, fZ_sA]; exact e3853
            have e3866 : v3847 = fZ H3863 0 13 := by rw [eH3863, fZ_sA]; exact e3854
            have jj3868_8 : (fZ H3863 0 8).toInt = (fZ H3851 0 8).toInt := by rw [eH3863, fZ_sA]
            have jj3869_10 : (fZ H3863 0 10).toInt = (fZ H3851 0 10).toInt := by rw [eH3863, fZ_sA]
            have jj3870_8 : (fZ H3863 0 8).toInt = (fZ H3851 0 8).toInt := by rw [eH3863, fZ_sA]
            have ie3866 : v3847.toInt = (fZ H3863 0 13).toInt := by rw [← e3866]
            exact g_ret ⟨rfl, hIH3863, hJH3863, (e3864.symm.trans ek0_2), (e3865.symm.trans ek0_19), (by omega)⟩
          · exact g_ret ⟨rfl, hIH3836, hJH3836, (e3844.symm.trans ek0_2), (e3845.symm.trans ek0_19), (by omega)⟩
        · refine g_aload_n rfl ?_
          refine g_iconst (by decide) (fun v3871 kv3871 => ?_)
          refine g_invvv hIH3818 sm_0 rfl rfl rfl rfl (s_161 v3871 (by omega) H3818 hIH3818 hJH3818) (fun H3872 r3873 => ?_)
          obtain ⟨hIH3872, hJH3872, w3874, w3875, w3876, w3877, m3878, p3879⟩ := r3873
          have e3880 : k0_2 = fZ H3872 0 2 := e3826.trans w3874.symm
          have e3881 : v3815 = fZ H3872 0 10 := e3827.trans w3876.symm
          have e3882 : k0_19 = fZ H3872 0 19 := e3828.trans w3877.symm
          have iw3875 : (fZ H3872 0 8).toInt = (fZ H3818 0 8).toInt := by rw [w3875]
          have m3883 : ∀ i, aZ H3872 3 i = aZ H 3 i := fun i => (m3878 3 i).trans (m3829 i)
          have ie3881 : v3815.toInt = (fZ H3872 0 10).toInt := by rw [← e3881]
          refine g_nop ?_
          refine g_aload_n rfl ?_
          refine g_gfi hIH3872 sm_0 rfl (fun v3884 ev3884 lv3884 uv3884 => ?_)
          refine g_istore_n (l' := [(0, .ref 0), (1, .int v3884)]) rfl rfl ?_
          refine g_aload_n rfl ?_
          refine g_invvv hIH3872 sm_0 rfl rfl rfl rfl (s_162 H3872 hIH3872 hJH3872) (fun H3885 r3886 => ?_)
          obtain ⟨hIH3885, hJH3885, w3887, w3888, w3889, m3890, p3891, p3892⟩ := r3886
          have e3893 : k0_2 = fZ H3885 0 2 := e3880.trans w3887.symm
          have e3894 : k0_19 = fZ H3885 0 19 := e3882.trans w3889.symm
          have iw3888 : (fZ H3885 0 13).toInt = (fZ H3872 0 13).toInt := by rw [w3888]
          have m3895 : ∀ i, aZ H3885 3 i = aZ H 3 i := fun i => (m3890 3 i).trans (m3883 i)
          refine g_aload_n rfl ?_
          refine g_gfi hIH3885 sm_0 rfl (fun v3896 ev3896 lv3896 uv3896 => ?_)
          have iev3896 : v3896.toInt = (fZ H3885 0 13).toInt := by rw [← ev3896]
          refine g_if_eq (fun c3897 => ?_) (fun c3897 => ?_)
          · refine g_aload_n rfl ?_
            refine g_gfr hIH3885 sm_0 rfl ?_
            refine g_aload_n rfl ?_
            refine g_gfr hIH3885 sm_0 rfl ?_
            refine g_iconst (by decide) (fun v3898 kv3898 => ?_)
            refine g_iaload hIH3885 sm_3 rfl (by omega) (fun v3899 ev3899 lv3899 uv3899 => ?_)
            have qv3899 := JN_n30 hJH3885 (v := v3899) (by rw [ev3899, show v3898.toInt.toNat = 0 from by omega])
            have zv3899 : v3899.toInt = (aZ H 3 0).toInt := by rw [ev3899, show v3898.toInt.toNat = 0 from by omega, m3895]
            refine g_iload_n rfl ?_
            refine g_iastore hIH3885 sm_4 (by omega) (gz_any _) (fun H3900 eH3900 hIH3900 => ?_)
            have hJH3900 : JN H3900 := JN_sA (by decide) eH3900 hJH3885
            have e3901 : k0_2 = fZ H3900 0 2 := by rw [eH3900, fZ_sA]; exact e3893
            have e3902 : k0_19 = fZ H3900 0 19 := by rw [eH3900, fZ_sA]; exact e3894
            have e3903 : v3896 = fZ H3900 0 13 := by rw [eH3900, fZ_sA]; exact ev3896
            have m3904 : ∀ i, aZ H3900 3 i = aZ H 3 i := fun i => (by rw [eH3900, aZ_sA_nc (by omega)] : aZ H3900 3 i = aZ H3885 3 i).trans (m3895 i)
            have jj3905_8 : (fZ H3900 0 8).toInt = (fZ H3885 0 8).toInt := by rw [eH3900, fZ_sA]
            have jj3906_10 : (fZ H3900 0 10).toInt = (fZ H3885 0 10).toInt := by rw [eH3900, fZ_sA]
            have jj3907_8 : (fZ H3900 0 8).toInt = (fZ H3885 0 8).toInt := by rw [eH3900, fZ_sA]
            have ie3903 : v3896.toInt = (fZ H3900 0 13).toInt := by rw [← e3903]
            refine g_aload_n rfl ?_
            refine g_gfr hIH3900 sm_0 rfl ?_
            refine g_iconst (by decide) (fun v3908 kv3908 => ?_)
            refine g_dup2 rfl ?_
            refine g_iaload hIH3900 sm_3 rfl (by omega) (fun v3909 ev3909 lv3909 uv3909 => ?_)
            have qv3909 := JN_n30 hJH3900 (v := v3909) (by rw [ev3909, show v3908.toInt.toNat = 0 from by omega])
            have zv3909 : v3909.toInt = (aZ H 3 0).toInt := by rw [ev3909, show v3908.toInt.toNat = 0 from by omega, m3904]
            refine g_iconst (by decide) (fun v3910 kv3910 => ?_)
            refine g_iadd (by omega) (fun v3911 ev3911 => ?_)
            refine g_iastore hIH3900 sm_3 (by omega) (gz_any _) (fun H3912 eH3912 hIH3912 => ?_)
            have hJH3912 : JN H3912 := JN_s3 hIH3900 hJH3900 (by omega) (by omega) (by omega) eH3912
            have e3913 : k0_2 = fZ H3912 0 2 := by rw [eH3912, fZ_sA]; exact e3901
            have e3914 : k0_19 = fZ H3912 0 19 := by rw [eH3912, fZ_sA]; exact e3902
            have e3915 : v3896 = fZ H3912 0 13 := by rw [eH3912, fZ_sA]; exact e3903
            have jj3917_8 : (fZ H3912 0 8).toInt = (fZ H3900 0 8).toInt := by rw [eH3912, fZ_sA]
            have jj3918_10 : (fZ H3912 0 10).toInt = (fZ H3900 0 10).toInt := by rw [eH3912, fZ_sA]
            have jj3919_8 : (fZ H3912 0 8).toInt = (fZ H3900 0 8).toInt := by rw [eH3912, fZ_sA]
            have ie3915 : v3896.toInt = (fZ H3912 0 13).toInt := by rw [← e3915]
            exact g_ret ⟨rfl, hIH3912, hJH3912, (e3913.symm.trans ek0_2), (e3914.symm.trans ek0_19), (by omega)⟩
          · exact g_ret ⟨rfl, hIH3885, hJH3885, (e3893.symm.trans ek0_2), (e3894.symm.trans ek0_19), (by omega)⟩
      · refine g_aload_n rfl ?_
        refine g_gfi hIH3713 sm_0 rfl (fun v3920 ev3920 lv3920 uv3920 => ?_)
        refine g_iconst (by decide) (fun v3921 kv3921 => ?_)
        refine g_if2_eq (fun c3922 => ?_) (fun c3922 => ?_)
        · refine g_aload_n rfl ?_
          refine g_invvi hIH3713 sm_0 rfl rfl rfl rfl (s_164 H3713 hIH3713 hJH3713) (fun v3925 H3923 r3924 => ?_)
          obtain ⟨rfl, bv3925⟩ := r3924
          refine g_iconst (by decide) (fun v3926 kv3926 => ?_)
          refine g_if2_eq (fun c3927 => ?_) (fun c3927 => ?_)
          · refine g_aload_n rfl ?_
            refine g_gfi hIH3713 sm_0 rfl (fun v3928 ev3928 lv3928 uv3928 => ?_)
            refine g_istore_n (l' := [(0, .ref 0), (1, .int v3928)]) rfl rfl ?_
            refine g_aload_n rfl ?_
            refine g_invvv hIH3713 sm_0 rfl rfl rfl rfl (s_162 H3713 hIH3713 hJH3713) (fun H3929 r3930 => ?_)
            obtain ⟨hIH3929, hJH3929, w3931, w3932, w3933, m3934, p3935, p3936⟩ := r3930
            have e3937 : k0_2 = fZ H3929 0 2 := e3721.trans w3931.symm
            have e3938 : v3724 = fZ H3929 0 13 := ev3724.trans w3932.symm
            have e3939 : k0_19 = fZ H3929 0 19 := e3722.trans w3933.symm
            have m3940 : ∀ i, aZ H3929 3 i = aZ H 3 i := fun i => (m3934 3 i).trans (m3723 i)
            have ie3938 : v3724.toInt = (fZ H3929 0 13).toInt := by rw [← e3938]
            refine g_aload_n rfl ?_
            refine g_gfk hIH3929 sm_0 rfl e3938 ?_
            refine g_if_eq (fun c3941 => ?_) (fun c3941 => ?_)
            · refine g_aload_n rfl ?_
              refine g_gfr hIH3929 sm_0 rfl ?_
              refine g_aload_n rfl ?_
              refine g_gfr hIH3929 sm_0 rfl ?_
              refine g_iconst (by decide) (fun v3942 kv3942 => ?_)
              refine g_iaload hIH3929 sm_3 rfl (by omega) (fun v3943 ev3943 lv3943 uv3943 => ?_)
              have qv3943 := JN_n30 hJH3929 (v := v3943) (by rw [ev3943, show v3942.toInt.toNat = 0 from by omega])
              have zv3943 : v3943.toInt = (aZ H 3 0).toInt := by rw [ev3943, show v3942.toInt.toNat = 0 from by omega, m3940]
              refine g_iload_n rfl ?_
              refine g_iastore hIH3929 sm_4 (by omega) (gz_any _) (fun H3944 eH3944 hIH3944 => ?_)
              have hJH3944 : JN H3944 := JN_sA (by decide) eH3944 hJH3929
              have e3945 : k0_2 = fZ H3944 0 2 := by rw [eH3944, fZ_sA]; exact e3937
              have e3946 : v3724 = fZ H3944 0 13 := by rw [eH3944, fZ_sA]; exact e3938
              have e3947 : k0_19 = fZ H3944 0 19 := by rw [eH3944, fZ_sA]; exact e3939
              have m3948 : ∀ i, aZ H3944 3 i = aZ H 3 i := fun i => (by rw [eH3944, aZ_sA_nc (by omega)] : aZ H3944 3 i = aZ H3929 3 i).trans (m3940 i)
              have jj3949_8 : (fZ H3944 0 8).toInt = (fZ H3929 0 8).toInt := by rw [eH3944, fZ_sA]
              have jj3950_10 : (fZ H3944 0 10).toInt = (fZ H3929 0 10).toInt := by rw [eH3944, fZ_sA]
              have jj3951_8 : (fZ H3944 0 8).toInt = (fZ H3929 0 8).toInt := by rw [eH3944, fZ_sA]
              have ie3946 : v3724.toInt = (fZ H3944 0 13).toInt := by rw [← e3946]
              refine g_aload_n rfl ?_
              refine g_gfr hIH3944 sm_0 rfl ?_
              refine g_iconst (by decide) (fun v3952 kv3952 => ?_)
              refine g_dup2 rfl ?_
              refine g_iaload hIH3944 sm_3 rfl (by omega) (fun v3953 ev3953 lv3953 uv3953 => ?_)
              have qv3953 := JN_n30 hJH3944 (v := v3953) (by rw [ev3953, show v3952.toInt.toNat = 0 from by omega])
              have zv3953 : v3953.toInt = (aZ H 3 0).toInt := by rw [ev3953, show v3952.toInt.toNat = 0 from by omega, m3948]
              refine g_iconst (by decide) (fun v3954 kv3954 => ?_)
              refine g_iadd (by omega) (fun v3955 ev3955 => ?_)
              refine g_iastore hIH3944 sm_3 (by omega) (gz_any _) (fun H3956 eH3956 hIH3956 => ?_)
              have hJH3956 : JN H3956 := JN_s3 hIH3944 hJH3944 (by omega) (by omega) (by omega) eH3956
              have e3957 : k0_2 = fZ H3956 0 2 := by rw [eH3956, fZ_sA]; exact e3945
              have e3958 : v3724 = fZ H3956 0 13 := by rw [eH3956, fZ_sA]; exact e3946
              have e3959 : k0_19 = fZ H3956 0 19 := by rw [eH3956, fZ_sA]; exact e3947
              have jj3961_8 : (fZ H3956 0 8).toInt = (fZ H3944 0 8).toInt := by rw [eH3956, fZ_sA]
              have jj3962_10 : (fZ H3956 0 10).toInt = (fZ H3944 0 10).toInt := by rw [eH3956, fZ_sA]
              have jj3963_8 : (fZ H3956 0 8).toInt = (fZ H3944 0 8).toInt := by rw [eH3956, fZ_sA]
              have ie3958 : v3724.toInt = (fZ H3956 0 13).toInt := by rw [← e3958]
              exact g_ret ⟨rfl, hIH3956, hJH3956, (e3957.symm.trans ek0_2), (e3959.symm.trans ek0_19), (by omega)⟩
            · exfalso; omega
          · refine g_aload_n rfl ?_
            refine g_iconst (by decide) (fun v3964 kv3964 => ?_)
            refine g_invvv hIH3713 sm_0 rfl rfl rfl rfl (s_161 v3964 (by omega) H3713 hIH3713 hJH3713) (fun H3965 r3966 => ?_)
            obtain ⟨hIH3965, hJH3965, w3967, w3968, w3969, w3970, m3971, p3972⟩ := r3966
            have e3973 : k0_2 = fZ H3965 0 2 := e3721.trans w3967.symm
            have e3974 : v3815 = fZ H3965 0 10 := ev3815.trans w3969.symm
            have e3975 : k0_19 = fZ H3965 0 19 := e3722.trans w3970.symm
            have iw3968 : (fZ H3965 0 8).toInt = (fZ H3713 0 8).toInt := by rw [w3968]
            have m3976 : ∀ i, aZ H3965 3 i = aZ H 3 i := fun i => (m3971 3 i).trans (m3723 i)
            have ie3974 : v3815.toInt = (fZ H3965 0 10).toInt := by rw [← e3974]
            refine g_nop ?_
            refine g_aload_n rfl ?_
            refine g_gfi hIH3965 sm_0 rfl (fun v3977 ev3977 lv3977 uv3977 => ?_)
            refine g_istore_n (l' := [(0, .ref 0), (1, .int v3977)]) rfl rfl ?_
            refine g_aload_n rfl ?_
            refine g_invvv hIH3965 sm_0 rfl rfl rfl rfl (s_162 H3965 hIH3965 hJH3965) (fun H3978 r3979 => ?_)
            obtain ⟨hIH3978, hJH3978, w3980, w3981, w3982, m3983, p3984, p3985⟩ := r3979
            have e3986 : k0_2 = fZ H3978 0 2 := e3973.trans w3980.symm
            have e3987 : k0_19 = fZ H3978 0 19 := e3975.trans w3982.symm
            have iw3981 : (fZ H3978 0 13).toInt = (fZ H3965 0 13).toInt := by rw [w3981]
            have m3988 : ∀ i, aZ H3978 3 i = aZ H 3 i := fun i => (m3983 3 i).trans (m3976 i)
            refine g_aload_n rfl ?_
            refine g_gfi hIH3978 sm_0 rfl (fun v3989 ev3989 lv3989 uv3989 => ?_)
            have iev3989 : v3989.toInt = (fZ H3978 0 13).toInt := by rw [← ev3989]
            refine g_if_eq (fun c3990 => ?_) (fun c3990 => ?_)
            · refine g_aload_n rfl ?_
              refine g_gfr hIH3978 sm_0 rfl ?_
              refine g_aload_n rfl ?_
              refine g_gfr hIH3978 sm_0 rfl ?_
              refine g_iconst (by decide) (fun v3991 kv3991 => ?_)
              refine g_iaload hIH3978 sm_3 rfl (by omega) (fun v3992 ev3992 lv3992 uv3992 => ?_)
              have qv3992 := JN_n30 hJH3978 (v := v3992) (by rw [ev3992, show v3991.toInt.toNat = 0 from by omega])
              have zv3992 : v3992.toInt = (aZ H 3 0).toInt := by rw [ev3992, show v3991.toInt.toNat = 0 from by omega, m3988]
              refine g_iload_n rfl ?_
              refine g_iastore hIH3978 sm_4 (by omega) (gz_any _) (fun H3993 eH3993 hIH3993 => ?_)
              have hJH3993 : JN H3993 := JN_sA (by decide) eH3993 hJH3978
              have e3994 : k0_2 = fZ H3993 0 2 := by rw [eH3993, fZ_sA]; exact e3986
              have e3995 : k0_19 = fZ H3993 0 19 := by rw [eH3993, fZ_sA]; exact e3987
              have e3996 : v3989 = fZ H3993 0 13 := by rw [eH3993, fZ_sA]; exact ev3989
              have m3997 : ∀ i, aZ H3993 3 i = aZ H 3 i := fun i => (by rw [eH3993, aZ_sA_nc (by omega)] : aZ H3993 3 i = aZ H3978 3 i).trans (m3988 i)
              have jj3998_8 : (fZ H3993 0 8).toInt = (fZ H3978 0 8).toInt := by rw [eH3993, fZ_sA]
              have jj3999_10 : (fZ H3993 0 10).toInt = (fZ H3978 0 10).toInt := by rw [eH3993, fZ_sA]
              have jj4000_8 : (fZ H3993 0 8).toInt = (fZ H3978 0 8).toInt := by rw [eH3993, fZ_sA]
              have ie3996 : v3989.toInt = (fZ H3993 0 13).toInt := by rw [← e3996]
              refine g_aload_n rfl ?_
              refine g_gfr hIH3993 sm_0 rfl ?_
              refine g_iconst (by decide) (fun v4001 kv4001 => ?_)
              refine g_dup2 rfl ?_
              refine g_iaload hIH3993 sm_3 rfl (by omega) (fun v4002 ev4002 lv4002 uv4002 => ?_)
              have qv4002 := JN_n30 hJH3993 (v := v4002) (by rw [ev4002, show v4001.toInt.toNat = 0 from by omega])
              have zv4002 : v4002.toInt = (aZ H 3 0).toInt := by rw [ev4002, show v4001.toInt.toNat = 0 from by omega, m3997]
              refine g_iconst (by decide) (fun v4003 kv4003 => ?_)
              refine g_iadd (by omega) (fun v4004 ev4004 => ?_)
              refine g_iastore hIH3993 sm_3 (by omega) (gz_any _) (fun H4005 eH4005 hIH4005 => ?_)
              have hJH4005 : JN H4005 := JN_s3 hIH3993 hJH3993 (by omega) (by omega) (by omega) eH4005
              have e4006 : k0_2 = fZ H4005 0 2 := by rw [eH4005, fZ_sA]; exact e3994
              have e4007 : k0_19 = fZ H4005 0 19 := by rw [eH4005, fZ_sA]; exact e3995
              have e4008 : v3989 = fZ H4005 0 13 := by rw [eH4005, fZ_sA]; exact e3996
              have jj4010_8 : (fZ H4005 0 8).toInt = (fZ H3993 0 8).toInt := by rw [eH4005, fZ_sA]
              have jj4011_10 : (fZ H4005 0 10).toInt = (fZ H3993 0 10).toInt := by rw [eH4005, fZ_sA]
              have jj4012_8 : (fZ H4005 0 8).toInt = (fZ H3993 0 8).toInt := by rw [eH4005, fZ_sA]
              have ie4008 : v3989.toInt = (fZ H4005 0 13).toInt := by rw [← e4008]
              exact g_ret ⟨rfl, hIH4005, hJH4005, (e4006.symm.trans ek0_2), (e4007.symm.trans ek0_19), (by omega)⟩
            · exact g_ret ⟨rfl, hIH3978, hJH3978, (e3986.symm.trans ek0_2), (e3987.symm.trans ek0_19), (by omega)⟩
        · refine g_nop ?_
          refine g_aload_n rfl ?_
          refine g_iconst (by decide) (fun v4013 kv4013 => ?_)
          refine g_invvv hIH3713 sm_0 rfl rfl rfl rfl (s_161 v4013 (by omega) H3713 hIH3713 hJH3713) (fun H4014 r4015 => ?_)
          obtain ⟨hIH4014, hJH4014, w4016, w4017, w4018, w4019, m4020, p4021⟩ := r4015
          have e4022 : k0_2 = fZ H4014 0 2 := e3721.trans w4016.symm
          have e4023 : v3815 = fZ H4014 0 10 := ev3815.trans w4018.symm
          have e4024 : k0_19 = fZ H4014 0 19 := e3722.trans w4019.symm
          have iw4017 : (fZ H4014 0 8).toInt = (fZ H3713 0 8).toInt := by rw [w4017]
          have m4025 : ∀ i, aZ H4014 3 i = aZ H 3 i := fun i => (m4020 3 i).trans (m3723 i)
          have ie4023 : v3815.toInt = (fZ H4014 0 10).toInt := by rw [← e4023]
          refine g_nop ?_
          refine g_aload_n rfl ?_
          refine g_invvi hIH4014 sm_0 rfl rfl rfl rfl (s_164 H4014 hIH4014 hJH4014) (fun v4028 H4026 r4027 => ?_)
          obtain ⟨rfl, bv4028⟩ := r4027
          refine g_iconst (by decide) (fun v4029 kv4029 => ?_)
          refine g_if2_eq (fun c4030 => ?_) (fun c4030 => ?_)
          · refine g_aload_n rfl ?_
            refine g_gfi hIH4014 sm_0 rfl (fun v4031 ev4031 lv4031 uv4031 => ?_)
            refine g_istore_n (l' := [(0, .ref 0), (1, .int v4031)]) rfl rfl ?_
            refine g_aload_n rfl ?_
            refine g_invvv hIH4014 sm_0 rfl rfl rfl rfl (s_162 H4014 hIH4014 hJH4014) (fun H4032 r4033 => ?_)
            obtain ⟨hIH4032, hJH4032, w4034, w4035, w4036, m4037, p4038, p4039⟩ := r4033
            have e4040 : k0_2 = fZ H4032 0 2 := e4022.trans w4034.symm
            have e4041 : k0_19 = fZ H4032 0 19 := e4024.trans w4036.symm
            have iw4035 : (fZ H4032 0 13).toInt = (fZ H4014 0 13).toInt := by rw [w4035]
            have m4042 : ∀ i, aZ H4032 3 i = aZ H 3 i := fun i => (m4037 3 i).trans (m4025 i)
            refine g_aload_n rfl ?_
            refine g_gfi hIH4032 sm_0 rfl (fun v4043 ev4043 lv4043 uv4043 => ?_)
            have iev4043 : v4043.toInt = (fZ H4032 0 13).toInt := by rw [← ev4043]
            refine g_if_eq (fun c4044 => ?_) (fun c4044 => ?_)
            · refine g_aload_n rfl ?_
              refine g_gfr hIH4032 sm_0 rfl ?_
              refine g_aload_n rfl ?_
              refine g_gfr hIH4032 sm_0 rfl ?_
              refine g_iconst (by decide) (fun v4045 kv4045 => ?_)
              refine g_iaload hIH4032 sm_3 rfl (by omega) (fun v4046 ev4046 lv4046 uv4046 => ?_)
              have qv4046 := JN_n30 hJH4032 (v := v4046) (by rw [ev4046, show v4045.toInt.toNat = 0 from by omega])
              have zv4046 : v4046.toInt = (aZ H 3 0).toInt := by rw [ev4046, show v4045.toInt.toNat = 0 from by omega, m4042]
              refine g_iload_n rfl ?_
              refine g_iastore hIH4032 sm_4 (by omega) (gz_any _) (fun H4047 eH4047 hIH4047 => ?_)
              have hJH4047 : JN H4047 := JN_sA (by decide) eH4047 hJH4032
              have e4048 : k0_2 = fZ H4047 0 2 := by rw [eH4047, fZ_sA]; exact e4040
              have e4049 : k0_19 = fZ H4047 0 19 := by rw [eH4047, fZ_sA]; exact e4041
              have e4050 : v4043 = fZ H4047 0 13 := by rw [eH4047, fZ_sA]; exact ev4043
              have m4051 : ∀ i, aZ H4047 3 i = aZ H 3 i := fun i => (by rw [eH4047, aZ_sA_nc (by omega)] : aZ H4047 3 i = aZ H4032 3 i).trans (m4042 i)
              have jj4052_8 : (fZ H4047 0 8).toInt = (fZ H4032 0 8).toInt := by rw [eH4047, fZ_sA]
              have jj4053_10 : (fZ H4047 0 10).toInt = (fZ H4032 0 10).toInt := by rw [eH4047, fZ_sA]
              have jj4054_8 : (fZ H4047 0 8).toInt = (fZ H4032 0 8).toInt := by rw [eH4047, fZ_sA]
              have ie4050 : v4043.toInt = (fZ H4047 0 13).toInt := by rw [← e4050]
              refine g_aload_n rfl ?_
              refine g_gfr hIH4047 sm_0 rfl ?_
              refine g_iconst (by decide) (fun v4055 kv4055 => ?_)
              refine g_dup2 rfl ?_
              refine g_iaload hIH4047 sm_3 rfl (by omega) (fun v4056 ev4056 lv4056 uv4056 => ?_)
              have qv4056 := JN_n30 hJH4047 (v := v4056) (by rw [ev4056, show v4055.toInt.toNat = 0 from by omega])
              have zv4056 : v4056.toInt = (aZ H 3 0).toInt := by rw [ev4056, show v4055.toInt.toNat = 0 from by omega, m4051]
              refine g_iconst (by decide) (fun v4057 kv4057 => ?_)
              refine g_iadd (by omega) (fun v4058 ev4058 => ?_)
              refine g_iastore hIH4047 sm_3 (by omega) (gz_any _) (fun H4059 eH4059 hIH4059 => ?_)
              have hJH4059 : JN H4059 := JN_s3 hIH4047 hJH4047 (by omega) (by omega) (by omega) eH4059
              have e4060 : k0_2 = fZ H4059 0 2 := by rw [eH4059, fZ_sA]; exact e4048
              have e4061 : k0_19 = fZ H4059 0 19 := by rw [eH4059, fZ_sA]; exact e4049
              have e4062 : v4043 = fZ H4059 0 13 := by rw [eH4059, fZ_sA]; exact e4050
              have jj4064_8 : (fZ H4059 0 8).toInt = (fZ H4047 0 8).toInt := by rw [eH4059, fZ_sA]
              have jj4065_10 : (fZ H4059 0 10).toInt = (fZ H4047 0 10).toInt := by rw [eH4059, fZ_sA]
              have jj4066_8 : (fZ H4059 0 8).toInt = (fZ H4047 0 8).toInt := by rw [eH4059, fZ_sA]
              have ie4062 : v4043.toInt = (fZ H4059 0 13).toInt := by rw [← e4062]
              exact g_ret ⟨rfl, hIH4059, hJH4059, (e4060.symm.trans ek0_2), (e4061.symm.trans ek0_19), (by omega)⟩
            · exact g_ret ⟨rfl, hIH4032, hJH4032, (e4040.symm.trans ek0_2), (e4041.symm.trans ek0_19), (by omega)⟩
          · refine g_aload_n rfl ?_
            refine g_iconst (by decide) (fun v4067 kv4067 => ?_)
            refine g_invvv hIH4014 sm_0 rfl rfl rfl rfl (s_161 v4067 (by omega) H4014 hIH4014 hJH4014) (fun H4068 r4069 => ?_)
            obtain ⟨hIH4068, hJH4068, w4070, w4071, w4072, w4073, m4074, p4075⟩ := r4069
            have e4076 : k0_2 = fZ H4068 0 2 := e4022.trans w4070.symm
            have e4077 : v3815 = fZ H4068 0 10 := e4023.trans w4072.symm
            have e4078 : k0_19 = fZ H4068 0 19 := e4024.trans w4073.symm
            have iw4071 : (fZ H4068 0 8).toInt = (fZ H4014 0 8).toInt := by rw [w4071]
            have m4079 : ∀ i, aZ H4068 3 i = aZ H 3 i := fun i => (m4074 3 i).trans (m4025 i)
            have ie4077 : v3815.toInt = (fZ H4068 0 10).toInt := by rw [← e4077]
            refine g_nop ?_
            refine g_aload_n rfl ?_
            refine g_gfi hIH4068 sm_0 rfl (fun v4080 ev4080 lv4080 uv4080 => ?_)
            refine g_istore_n (l' := [(0, .ref 0), (1, .int v4080)]) rfl rfl ?_
            refine g_aload_n rfl ?_
            refine g_invvv hIH4068 sm_0 rfl rfl rfl rfl (s_162 H4068 hIH4068 hJH4068) (fun H4081 r4082 => ?_)
            obtain ⟨hIH4081, hJH4081, w4083, w4084, w4085, m4086, p4087, p4088⟩ := r4082
            have e4089 : k0_2 = fZ H4081 0 2 := e4076.trans w4083.symm
            have e4090 : k0_19 = fZ H4081 0 19 := e4078.trans w4085.symm
            have iw4084 : (fZ H4081 0 13).toInt = (fZ H4068 0 13).toInt := by rw [w4084]
            have m4091 : ∀ i, aZ H4081 3 i = aZ H 3 i := fun i => (m4086 3 i).trans (m4079 i)
            refine g_aload_n rfl ?_
            refine g_gfi hIH4081 sm_0 rfl (fun v4092 ev4092 lv4092 uv4092 => ?_)
            have iev4092 : v4092.toInt = (fZ H4081 0 13).toInt := by rw [← ev4092]
            refine g_if_eq (fun c4093 => ?_) (fun c4093 => ?_)
            · refine g_aload_n rfl ?_
              refine g_gfr hIH4081 sm_0 rfl ?_
              refine g_aload_n rfl ?_
              refine g_gfr hIH4081 sm_0 rfl ?_
              refine g_iconst (by decide) (fun v4094 kv4094 => ?_)
              refine g_iaload hIH4081 sm_3 rfl (by omega) (fun v4095 ev4095 lv4095 uv4095 => ?_)
              have qv4095 := JN_n30 hJH4081 (v := v4095) (by rw [ev4095, show v4094.toInt.toNat = 0 from by omega])
              have zv4095 : v4095.toInt = (aZ H 3 0).toInt := by rw [ev4095, show v4094.toInt.toNat = 0 from by omega, m4091]
              refine g_iload_n rfl ?_
              refine g_iastore hIH4081 sm_4 (by omega) (gz_any _) (fun H4096 eH4096 hIH4096 => ?_)
              have hJH4096 : JN H4096 := JN_sA (by decide) eH4096 hJH4081
              have e4097 : k0_2 = fZ H4096 0 2 := by rw [eH4096, fZ_sA]; exact e4089
              have e4098 : k0_19 = fZ H4096 0 19 := by rw [eH4096, fZ_sA]; exact e4090
              have e4099 : v4092 = fZ H4096 0 13 := by rw [eH4096, fZ_sA]; exact ev4092
              have m4100 : ∀ i, aZ H4096 3 i = aZ H 3 i := fun i => (by rw [eH4096, aZ_sA_nc (by omega)] : aZ H4096 3 i = aZ H4081 3 i).trans (m4091 i)
              have jj4101_8 : (fZ H4096 0 8).toInt = (fZ H4081 0 8).toInt := by rw [eH4096, fZ_sA]
              have jj4102_10 : (fZ H4096 0 10).toInt = (fZ H4081 0 10).toInt := by rw [eH4096, fZ_sA]
              have jj4103_8 : (fZ H4096 0 8).toInt = (fZ H4081 0 8).toInt := by rw [eH4096, fZ_sA]
              have ie4099 : v4092.toInt = (fZ H4096 0 13).toInt := by rw [← e4099]
              refine g_aload_n rfl ?_
              refine g_gfr hIH4096 sm_0 rfl ?_
              refine g_iconst (by decide) (fun v4104 kv4104 => ?_)
              refine g_dup2 rfl ?_
              refine g_iaload hIH4096 sm_3 rfl (by omega) (fun v4105 ev4105 lv4105 uv4105 => ?_)
              have qv4105 := JN_n30 hJH4096 (v := v4105) (by rw [ev4105, show v4104.toInt.toNat = 0 from by omega])
              have zv4105 : v4105.toInt = (aZ H 3 0).toInt := by rw [ev4105, show v4104.toInt.toNat = 0 from by omega, m4100]
              refine g_iconst (by decide) (fun v4106 kv4106 => ?_)
              refine g_iadd (by omega) (fun v4107 ev4107 => ?_)
              refine g_iastore hIH4096 sm_3 (by omega) (gz_any _) (fun H4108 eH4108 hIH4108 => ?_)
              have hJH4108 : JN H4108 := JN_s3 hIH4096 hJH4096 (by omega) (by omega) (by omega) eH4108
              have e4109 : k0_2 = fZ H4108 0 2 := by rw [eH4108, fZ_sA]; exact e4097
              have e4110 : k0_19 = fZ H4108 0 19 := by rw [eH4108, fZ_sA]; exact e4098
              have e4111 : v4092 = fZ H4108 0 13 := by rw [eH4108, fZ_sA]; exact e4099
              have jj4113_8 : (fZ H4108 0 8).toInt = (fZ H4096 0 8).toInt := by rw [eH4108, fZ_sA]
              have jj4114_10 : (fZ H4108 0 10).toInt = (fZ H4096 0 10).toInt := by rw [eH4108, fZ_sA]
              have jj4115_8 : (fZ H4108 0 8).toInt = (fZ H4096 0 8).toInt := by rw [eH4108, fZ_sA]
              have ie4111 : v4092.toInt = (fZ H4108 0 13).toInt := by rw [← e4111]
              exact g_ret ⟨rfl, hIH4108, hJH4108, (e4109.symm.trans ek0_2), (e4110.symm.trans ek0_19), (by omega)⟩
            · exact g_ret ⟨rfl, hIH4081, hJH4081, (e4089.symm.trans ek0_2), (e4090.symm.trans ek0_19), (by omega)⟩
set_option maxRecDepth 4000 in
set_option maxHeartbeats 4000000 in
/-- M.readRoad -/
theorem s_167 (H : mzH) (hI : gI SM H) (hJ : JN H) : gCall 167 [.ref 0] H (gRv (fun H' => gI SM H' ∧ JN H' ∧ fZ H' 0 2 = fZ H 0 2 ∧ fZ H' 0 19 = fZ H 0 19 ∧ (fZ H 0 8).toInt ≤ (fZ H' 0 8).toInt)) := by
  obtain ⟨k0_2, ek0_2⟩ : ∃ z, z = fZ H 0 2 := ⟨_, rfl⟩
  have ik0_2 : k0_2.toInt = (fZ H 0 2).toInt := by rw [← ek0_2]
  have bk0_2 : 0 ≤ k0_2.toInt ∧ k0_2.toInt ≤ 900 := by rw [ek0_2]; exact fZ_of hI sm_0 rfl
  obtain ⟨k0_19, ek0_19⟩ : ∃ z, z = fZ H 0 19 := ⟨_, rfl⟩
  have ik0_19 : k0_19.toInt = (fZ H 0 19).toInt := by rw [← ek0_19]
  obtain ⟨k0_8, ek0_8⟩ : ∃ z, z = fZ H 0 8 := ⟨_, rfl⟩
  have ik0_8 : k0_8.toInt = (fZ H 0 8).toInt := by rw [← ek0_8]
  have bk0_8 : 0 ≤ k0_8.toInt ∧ k0_8.toInt ≤ 900 := by rw [ek0_8]; exact fZ_of hI sm_0 rfl
  obtain ⟨k0_13, ek0_13⟩ : ∃ z, z = fZ H 0 13 := ⟨_, rfl⟩
  have ik0_13 : k0_13.toInt = (fZ H 0 13).toInt := by rw [← ek0_13]
  have mk3 : ∀ i, aZ H 3 i = aZ H 3 i := fun _ => rfl
  refine gG_call [(0, .ref 0)] ⟨rfl, trivial⟩ ?_
  show gG 4 zB_167 (mzBlk zB_167 0) [(0, .ref 0)] [] H 0 0 _
  refine g_aload_n rfl ?_
  refine g_gfr hI sm_0 rfl ?_
  refine g_iconst (by decide) (fun v2073 kv2073 => ?_)
  refine g_iaload hI sm_3 rfl (by omega) (fun v2074 ev2074 lv2074 uv2074 => ?_)
  have zv2074 : v2074.toInt = (aZ H 3 1).toInt := by rw [ev2074, show v2073.toInt.toNat = 1 from by omega, mk3]
  refine g_bipush (by decide) (fun v2075 kv2075 => ?_)
  refine g_if2_ne (fun c2076 => ?_) (fun c2076 => ?_)
  · refine g_aload_n rfl ?_
    refine g_invvv hI sm_0 rfl rfl rfl rfl (s_162 H hI hJ) (fun H2077 r2078 => ?_)
    obtain ⟨hIH2077, hJH2077, w2079, w2080, w2081, m2082, p2083, p2084⟩ := r2078
    have e2085 : k0_2 = fZ H2077 0 2 := ek0_2.trans w2079.symm
    have e2086 : k0_13 = fZ H2077 0 13 := ek0_13.trans w2080.symm
    have e2087 : k0_19 = fZ H2077 0 19 := ek0_19.trans w2081.symm
    have m2088 : ∀ i, aZ H2077 3 i = aZ H 3 i := fun i => (m2082 3 i).trans (mk3 i)
    have ie2086 : k0_13.toInt = (fZ H2077 0 13).toInt := by rw [← e2086]
    refine g_aload_n rfl ?_
    refine g_invvi hIH2077 sm_0 rfl rfl rfl rfl (s_165 H2077 hIH2077 hJH2077) (fun v2091 H2089 r2090 => ?_)
    obtain ⟨hIH2089, hJH2089, bv2091, w2092, w2093, m2094, p2095, p2096⟩ := r2090
    have e2097 : k0_2 = fZ H2089 0 2 := e2085.trans w2092.symm
    have e2098 : k0_19 = fZ H2089 0 19 := e2087.trans w2093.symm
    have m2099 : ∀ i, aZ H2089 3 i = aZ H 3 i := fun i => (m2094 3 i).trans (m2088 i)
    refine g_istore_n (l' := [(0, .ref 0), (1, .int v2091)]) rfl rfl ?_
    refine g_aload_n rfl ?_
    refine g_gfi hIH2089 sm_0 rfl (fun v2100 ev2100 lv2100 uv2100 => ?_)
    have iev2100 : v2100.toInt = (fZ H2089 0 13).toInt := by rw [← ev2100]
    refine g_if_ne (fun c2101 => ?_) (fun c2101 => ?_)
    · refine g_aload_n rfl ?_
      refine g_invvi hIH2089 sm_0 rfl rfl rfl rfl (s_165 H2089 hIH2089 hJH2089) (fun v2104 H2102 r2103 => ?_)
      obtain ⟨hIH2102, hJH2102, bv2104, w2105, w2106, m2107, p2108, p2109⟩ := r2103
      have e2110 : k0_2 = fZ H2102 0 2 := e2097.trans w2105.symm
      have e2111 : k0_19 = fZ H2102 0 19 := e2098.trans w2106.symm
      have m2112 : ∀ i, aZ H2102 3 i = aZ H 3 i := fun i => (m2107 3 i).trans (m2099 i)
      refine g_istore_n (l' := [(0, .ref 0), (1, .int v2091), (2, .int v2104)]) rfl rfl ?_
      refine g_aload_n rfl ?_
      refine g_iconst (by decide) (fun v2113 kv2113 => ?_)
      refine g_bipush (by decide) (fun v2114 kv2114 => ?_)
      refine g_invvi hIH2102 sm_0 rfl rfl rfl rfl (s_163 v2113 v2114 H2102 hIH2102 hJH2102 (by omega)) (fun v2117 H2115 r2116 => ?_)
      obtain ⟨hIH2115, hJH2115, w2118, w2119, m2120, p2121, p2122, p2123⟩ := r2116
      have e2124 : k0_2 = fZ H2115 0 2 := e2110.trans w2118.symm
      have e2125 : k0_19 = fZ H2115 0 19 := e2111.trans w2119.symm
      have m2126 : ∀ i, aZ H2115 3 i = aZ H 3 i := fun i => (m2120 3 i).trans (m2112 i)
      refine g_istore_n (l' := [(0, .ref 0), (1, .int v2091), (2, .int v2104), (3, .int v2117)]) rfl rfl ?_
      refine g_aload_n rfl ?_
      refine g_gfi hIH2115 sm_0 rfl (fun v2127 ev2127 lv2127 uv2127 => ?_)
      have iev2127 : v2127.toInt = (fZ H2115 0 13).toInt := by rw [← ev2127]
      refine g_if_eq (fun c2128 => ?_) (fun c2128 => ?_)
      · refine g_aload_n rfl ?_
        refine g_gfr hIH2115 sm_0 rfl ?_
        refine g_iconst (by decide) (fun v2129 kv2129 => ?_)
        refine g_dup2 rfl ?_
        refine g_iaload hIH2115 sm_3 rfl (by omega) (fun v2130 ev2130 lv2130 uv2130 => ?_)
        have zv2130 : v2130.toInt = (aZ H 3 1).toInt := by rw [ev2130, show v2129.toInt.toNat = 1 from by omega, m2126]
        refine g_iconst (by decide) (fun v2131 kv2131 => ?_)
        refine g_iadd' (fun v2132 ov2132 => ?_)
        refine g_iastore hIH2115 sm_3 (by omega) (gz_any _) (fun H2133 eH2133 hIH2133 => ?_)
        have hJH2133 : JN H2133 := JN_s3 hIH2115 hJH2115 (by omega) (by omega) (by omega) eH2133
        have e2134 : k0_2 = fZ H2133 0 2 := by rw [eH2133, fZ_sA]; exact e2124
        have e2135 : k0_19 = fZ H2133 0 19 := by rw [eH2133, fZ_sA]; exact e2125
        have e2136 : v2127 = fZ H2133 0 13 := by rw [eH2133, fZ_sA]; exact ev2127
        have jj2138_8 : (fZ H2133 0 8).toInt = (fZ H2115 0 8).toInt := by rw [eH2133, fZ_sA]
        have jj2139_10 : (fZ H2133 0 10).toInt = (fZ H2115 0 10).toInt := by rw [eH2133, fZ_sA]
        have jj2140_8 : (fZ H2133 0 8).toInt = (fZ H2115 0 8).toInt := by rw [eH2133, fZ_sA]
        have ie2136 : v2127.toInt = (fZ H2133 0 13).toInt := by rw [← e2136]
        refine g_iload_n rfl ?_
        refine g_aload_n rfl ?_
        refine g_gfr hIH2133 sm_0 rfl ?_
        refine g_iconst (by decide) (fun v2141 kv2141 => ?_)
        refine g_bipush (by decide) (fun v2142 kv2142 => ?_)
        refine g_iload_n rfl ?_
        refine g_imulk' (n := 8) kv2142 (by omega) (fun v2143 ev2143 => ?_)
        refine g_iadd (by omega) (fun v2144 ev2144 => ?_)
        refine g_iload_n rfl ?_
        refine g_iadd (by omega) (fun v2145 ev2145 => ?_)
        refine g_iaload hIH2133 sm_3 rfl (by omega) (fun v2146 ev2146 lv2146 uv2146 => ?_)
        refine g_if2_lt (fun c2147 => ?_) (fun c2147 => ?_)
        · refine g_aload_n rfl ?_
          refine g_gfr hIH2133 sm_0 rfl ?_
          refine g_iconst (by decide) (fun v2148 kv2148 => ?_)
          refine g_bipush (by decide) (fun v2149 kv2149 => ?_)
          refine g_iload_n rfl ?_
          refine g_imulk' (n := 8) kv2149 (by omega) (fun v2150 ev2150 => ?_)
          refine g_iadd (by omega) (fun v2151 ev2151 => ?_)
          refine g_iload_n rfl ?_
          refine g_iadd (by omega) (fun v2152 ev2152 => ?_)
          refine g_iload_n rfl ?_
          refine g_iastore hIH2133 sm_3 (by omega) (gz_any _) (fun H2153 eH2153 hIH2153 => ?_)
          have hJH2153 : JN H2153 := JN_s3 hIH2133 hJH2133 (by omega) (by omega) (by omega) eH2153
          have e2154 : k0_2 = fZ H2153 0 2 := by rw [eH2153, fZ_sA]; exact e2134
          have e2155 : k0_19 = fZ H2153 0 19 := by rw [eH2153, fZ_sA]; exact e2135
          have e2156 : v2127 = fZ H2153 0 13 := by rw [eH2153, fZ_sA]; exact e2136
          have jj2157_8 : (fZ H2153 0 8).toInt = (fZ H2133 0 8).toInt := by rw [eH2153, fZ_sA]
          have jj2158_10 : (fZ H2153 0 10).toInt = (fZ H2133 0 10).toInt := by rw [eH2153, fZ_sA]
          have jj2159_8 : (fZ H2153 0 8).toInt = (fZ H2133 0 8).toInt := by rw [eH2153, fZ_sA]
          have ie2156 : v2127.toInt = (fZ H2153 0 13).toInt := by rw [← e2156]
          refine g_aload_n rfl ?_
          refine g_gfr hIH2153 sm_0 rfl ?_
          refine g_iconst (by decide) (fun v2160 kv2160 => ?_)
          refine g_bipush (by decide) (fun v2161 kv2161 => ?_)
          refine g_iload_n rfl ?_
          refine g_imulk' (n := 8) kv2161 (by omega) (fun v2162 ev2162 => ?_)
          refine g_iadd (by omega) (fun v2163 ev2163 => ?_)
          refine g_iload_n rfl ?_
          refine g_iadd (by omega) (fun v2164 ev2164 => ?_)
          refine g_iload_n rfl ?_
          refine g_iastore hIH2153 sm_3 (by omega) (gz_any _) (fun H2165 eH2165 hIH2165 => ?_)
          have hJH2165 : JN H2165 := JN_s3 hIH2153 hJH2153 (by omega) (by omega) (by omega) eH2165
          have e2166 : k0_2 = fZ H2165 0 2 := by rw [eH2165, fZ_sA]; exact e2154
          have e2167 : k0_19 = fZ H2165 0 19 := by rw [eH2165, fZ_sA]; exact e2155
          have e2168 : v2127 = fZ H2165 0 13 := by rw [eH2165, fZ_sA]; exact e2156
          have jj2169_8 : (fZ H2165 0 8).toInt = (fZ H2153 0 8).toInt := by rw [eH2165, fZ_sA]
          have jj2170_10 : (fZ H2165 0 10).toInt = (fZ H2153 0 10).toInt := by rw [eH2165, fZ_sA]
          have jj2171_8 : (fZ H2165 0 8).toInt = (fZ H2153 0 8).toInt := by rw [eH2165, fZ_sA]
          have ie2168 : v2127.toInt = (fZ H2165 0 13).toInt := by rw [← e2168]
          exact g_ret ⟨rfl, hIH2165, hJH2165, (e2166.symm.trans ek0_2), (e2167.symm.trans ek0_19), (by omega)⟩
        · exact g_ret ⟨rfl, hIH2133, hJH2133, (e2134.symm.trans ek0_2), (e2135.symm.trans ek0_19), (by omega)⟩
      · exact g_ret ⟨rfl, hIH2115, hJH2115, (e2124.symm.trans ek0_2), (e2125.symm.trans ek0_19), (by omega)⟩
    · refine g_aload_n rfl ?_
      refine g_invvi hIH2089 sm_0 rfl rfl rfl rfl (s_164 H2089 hIH2089 hJH2089) (fun v2174 H2172 r2173 => ?_)
      obtain ⟨rfl, bv2174⟩ := r2173
      refine g_iload_n rfl ?_
      refine g_if2_ne (fun c2175 => ?_) (fun c2175 => ?_)
      · refine g_aload_n rfl ?_
        refine g_invvi hIH2089 sm_0 rfl rfl rfl rfl (s_165 H2089 hIH2089 hJH2089) (fun v2178 H2176 r2177 => ?_)
        obtain ⟨hIH2176, hJH2176, bv2178, w2179, w2180, m2181, p2182, p2183⟩ := r2177
        have e2184 : k0_2 = fZ H2176 0 2 := e2097.trans w2179.symm
        have e2185 : k0_19 = fZ H2176 0 19 := e2098.trans w2180.symm
        have m2186 : ∀ i, aZ H2176 3 i = aZ H 3 i := fun i => (m2181 3 i).trans (m2099 i)
        refine g_istore_n (l' := [(0, .ref 0), (1, .int v2091), (2, .int v2178)]) rfl rfl ?_
        refine g_aload_n rfl ?_
        refine g_iconst (by decide) (fun v2187 kv2187 => ?_)
        refine g_bipush (by decide) (fun v2188 kv2188 => ?_)
        refine g_invvi hIH2176 sm_0 rfl rfl rfl rfl (s_163 v2187 v2188 H2176 hIH2176 hJH2176 (by omega)) (fun v2191 H2189 r2190 => ?_)
        obtain ⟨hIH2189, hJH2189, w2192, w2193, m2194, p2195, p2196, p2197⟩ := r2190
        have e2198 : k0_2 = fZ H2189 0 2 := e2184.trans w2192.symm
        have e2199 : k0_19 = fZ H2189 0 19 := e2185.trans w2193.symm
        have m2200 : ∀ i, aZ H2189 3 i = aZ H 3 i := fun i => (m2194 3 i).trans (m2186 i)
        refine g_istore_n (l' := [(0, .ref 0), (1, .int v2091), (2, .int v2178), (3, .int v2191)]) rfl rfl ?_
        refine g_aload_n rfl ?_
        refine g_gfi hIH2189 sm_0 rfl (fun v2201 ev2201 lv2201 uv2201 => ?_)
        have iev2201 : v2201.toInt = (fZ H2189 0 13).toInt := by rw [← ev2201]
        refine g_if_eq (fun c2202 => ?_) (fun c2202 => ?_)
        · refine g_aload_n rfl ?_
          refine g_gfr hIH2189 sm_0 rfl ?_
          refine g_iconst (by decide) (fun v2203 kv2203 => ?_)
          refine g_dup2 rfl ?_
          refine g_iaload hIH2189 sm_3 rfl (by omega) (fun v2204 ev2204 lv2204 uv2204 => ?_)
          have zv2204 : v2204.toInt = (aZ H 3 1).toInt := by rw [ev2204, show v2203.toInt.toNat = 1 from by omega, m2200]
          refine g_iconst (by decide) (fun v2205 kv2205 => ?_)
          refine g_iadd' (fun v2206 ov2206 => ?_)
          refine g_iastore hIH2189 sm_3 (by omega) (gz_any _) (fun H2207 eH2207 hIH2207 => ?_)
          have hJH2207 : JN H2207 := JN_s3 hIH2189 hJH2189 (by omega) (by omega) (by omega) eH2207
          have e2208 : k0_2 = fZ H2207 0 2 := by rw [eH2207, fZ_sA]; exact e2198
          have e2209 : k0_19 = fZ H2207 0 19 := by rw [eH2207, fZ_sA]; exact e2199
          have e2210 : v2201 = fZ H2207 0 13 := by rw [eH2207, fZ_sA]; exact ev2201
          have jj2212_8 : (fZ H2207 0 8).toInt = (fZ H2189 0 8).toInt := by rw [eH2207, fZ_sA]
          have jj2213_10 : (fZ H2207 0 10).toInt = (fZ H2189 0 10).toInt := by rw [eH2207, fZ_sA]
          have jj2214_8 : (fZ H2207 0 8).toInt = (fZ H2189 0 8).toInt := by rw [eH2207, fZ_sA]
          have ie2210 : v2201.toInt = (fZ H2207 0 13).toInt := by rw [← e2210]
          refine g_iload_n rfl ?_
          refine g_aload_n rfl ?_
          refine g_gfr hIH2207 sm_0 rfl ?_
          refine g_iconst (by decide) (fun v2215 kv2215 => ?_)
          refine g_bipush (by decide) (fun v2216 kv2216 => ?_)
          refine g_iload_n rfl ?_
          refine g_imulk' (n := 8) kv2216 (by omega) (fun v2217 ev2217 => ?_)
          refine g_iadd (by omega) (fun v2218 ev2218 => ?_)
          refine g_iload_n rfl ?_
          refine g_iadd (by omega) (fun v2219 ev2219 => ?_)
          refine g_iaload hIH2207 sm_3 rfl (by omega) (fun v2220 ev2220 lv2220 uv2220 => ?_)
          refine g_if2_lt (fun c2221 => ?_) (fun c2221 => ?_)
          · refine g_aload_n rfl ?_
            refine g_gfr hIH2207 sm_0 rfl ?_
            refine g_iconst (by decide) (fun v2222 kv2222 => ?_)
            refine g_bipush (by decide) (fun v2223 kv2223 => ?_)
            refine g_iload_n rfl ?_
            refine g_imulk' (n := 8) kv2223 (by omega) (fun v2224 ev2224 => ?_)
            refine g_iadd (by omega) (fun v2225 ev2225 => ?_)
            refine g_iload_n rfl ?_
            refine g_iadd (by omega) (fun v2226 ev2226 => ?_)
            refine g_iload_n rfl ?_
            refine g_iastore hIH2207 sm_3 (by omega) (gz_any _) (fun H2227 eH2227 hIH2227 => ?_)
            have hJH2227 : JN H2227 := JN_s3 hIH2207 hJH2207 (by omega) (by omega) (by omega) eH2227
            have e2228 : k0_2 = fZ H2227 0 2 := by rw [eH2227, fZ_sA]; exact e2208
            have e2229 : k0_19 = fZ H2227 0 19 := by rw [eH2227, fZ_sA]; exact e2209
            have e2230 : v2201 = fZ H2227 0 13 := by rw [eH2227, fZ_sA]; exact e2210
            have jj2231_8 : (fZ H2227 0 8).toInt = (fZ H2207 0 8).toInt := by rw [eH2227, fZ_sA]
            have jj2232_10 : (fZ H2227 0 10).toInt = (fZ H2207 0 10).toInt := by rw [eH2227, fZ_sA]
            have jj2233_8 : (fZ H2227 0 8).toInt = (fZ H2207 0 8).toInt := by rw [eH2227, fZ_sA]
            have ie2230 : v2201.toInt = (fZ H2227 0 13).toInt := by rw [← e2230]
            refine g_aload_n rfl ?_
            refine g_gfr hIH2227 sm_0 rfl ?_
            refine g_iconst (by decide) (fun v2234 kv2234 => ?_)
            refine g_bipush (by decide) (fun v2235 kv2235 => ?_)
            refine g_iload_n rfl ?_
            refine g_imulk' (n := 8) kv2235 (by omega) (fun v2236 ev2236 => ?_)
            refine g_iadd (by omega) (fun v2237 ev2237 => ?_)
            refine g_iload_n rfl ?_
            refine g_iadd (by omega) (fun v2238 ev2238 => ?_)
            refine g_iload_n rfl ?_
            refine g_iastore hIH2227 sm_3 (by omega) (gz_any _) (fun H2239 eH2239 hIH2239 => ?_)
            have hJH2239 : JN H2239 := JN_s3 hIH2227 hJH2227 (by omega) (by omega) (by omega) eH2239
            have e2240 : k0_2 = fZ H2239 0 2 := by rw [eH2239, fZ_sA]; exact e2228
            have e2241 : k0_19 = fZ H2239 0 19 := by rw [eH2239, fZ_sA]; exact e2229
            have e2242 : v2201 = fZ H2239 0 13 := by rw [eH2239, fZ_sA]; exact e2230
            have jj2243_8 : (fZ H2239 0 8).toInt = (fZ H2227 0 8).toInt := by rw [eH2239, fZ_sA]
            have jj2244_10 : (fZ H2239 0 10).toInt = (fZ H2227 0 10).toInt := by rw [eH2239, fZ_sA]
            have jj2245_8 : (fZ H2239 0 8).toInt = (fZ H2227 0 8).toInt := by rw [eH2239, fZ_sA]
            have ie2242 : v2201.toInt = (fZ H2239 0 13).toInt := by rw [← e2242]
            exact g_ret ⟨rfl, hIH2239, hJH2239, (e2240.symm.trans ek0_2), (e2241.symm.trans ek0_19), (by omega)⟩
          · exact g_ret ⟨rfl, hIH2207, hJH2207, (e2208.symm.trans ek0_2), (e2209.symm.trans ek0_19), (by omega)⟩
        · exact g_ret ⟨rfl, hIH2189, hJH2189, (e2198.symm.trans ek0_2), (e2199.symm.trans ek0_19), (by omega)⟩
      · refine g_aload_n rfl ?_
        refine g_iconst (by decide) (fun v2246 kv2246 => ?_)
        refine g_invvv hIH2089 sm_0 rfl rfl rfl rfl (s_161 v2246 (by omega) H2089 hIH2089 hJH2089) (fun H2247 r2248 => ?_)
        obtain ⟨hIH2247, hJH2247, w2249, w2250, w2251, w2252, m2253, p2254⟩ := r2248
        have e2255 : k0_2 = fZ H2247 0 2 := e2097.trans w2249.symm
        have e2256 : k0_19 = fZ H2247 0 19 := e2098.trans w2252.symm
        have iw2250 : (fZ H2247 0 8).toInt = (fZ H2089 0 8).toInt := by rw [w2250]
        have iw2251 : (fZ H2247 0 10).toInt = (fZ H2089 0 10).toInt := by rw [w2251]
        have m2257 : ∀ i, aZ H2247 3 i = aZ H 3 i := fun i => (m2253 3 i).trans (m2099 i)
        refine g_nop ?_
        refine g_aload_n rfl ?_
        refine g_invvi hIH2247 sm_0 rfl rfl rfl rfl (s_165 H2247 hIH2247 hJH2247) (fun v2260 H2258 r2259 => ?_)
        obtain ⟨hIH2258, hJH2258, bv2260, w2261, w2262, m2263, p2264, p2265⟩ := r2259
        have e2266 : k0_2 = fZ H2258 0 2 := e2255.trans w2261.symm
        have e2267 : k0_19 = fZ H2258 0 19 := e2256.trans w2262.symm
        have m2268 : ∀ i, aZ H2258 3 i = aZ H 3 i := fun i => (m2263 3 i).trans (m2257 i)
        refine g_istore_n (l' := [(0, .ref 0), (1, .int v2091), (2, .int v2260)]) rfl rfl ?_
        refine g_aload_n rfl ?_
        refine g_iconst (by decide) (fun v2269 kv2269 => ?_)
        refine g_bipush (by decide) (fun v2270 kv2270 => ?_)
        refine g_invvi hIH2258 sm_0 rfl rfl rfl rfl (s_163 v2269 v2270 H2258 hIH2258 hJH2258 (by omega)) (fun v2273 H2271 r2272 => ?_)
        obtain ⟨hIH2271, hJH2271, w2274, w2275, m2276, p2277, p2278, p2279⟩ := r2272
        have e2280 : k0_2 = fZ H2271 0 2 := e2266.trans w2274.symm
        have e2281 : k0_19 = fZ H2271 0 19 := e2267.trans w2275.symm
        have m2282 : ∀ i, aZ H2271 3 i = aZ H 3 i := fun i => (m2276 3 i).trans (m2268 i)
        refine g_istore_n (l' := [(0, .ref 0), (1, .int v2091), (2, .int v2260), (3, .int v2273)]) rfl rfl ?_
        refine g_aload_n rfl ?_
        refine g_gfi hIH2271 sm_0 rfl (fun v2283 ev2283 lv2283 uv2283 => ?_)
        have iev2283 : v2283.toInt = (fZ H2271 0 13).toInt := by rw [← ev2283]
        refine g_if_eq (fun c2284 => ?_) (fun c2284 => ?_)
        · refine g_aload_n rfl ?_
          refine g_gfr hIH2271 sm_0 rfl ?_
          refine g_iconst (by decide) (fun v2285 kv2285 => ?_)
          refine g_dup2 rfl ?_
          refine g_iaload hIH2271 sm_3 rfl (by omega) (fun v2286 ev2286 lv2286 uv2286 => ?_)
          have zv2286 : v2286.toInt = (aZ H 3 1).toInt := by rw [ev2286, show v2285.toInt.toNat = 1 from by omega, m2282]
          refine g_iconst (by decide) (fun v2287 kv2287 => ?_)
          refine g_iadd' (fun v2288 ov2288 => ?_)
          refine g_iastore hIH2271 sm_3 (by omega) (gz_any _) (fun H2289 eH2289 hIH2289 => ?_)
          have hJH2289 : JN H2289 := JN_s3 hIH2271 hJH2271 (by omega) (by omega) (by omega) eH2289
          have e2290 : k0_2 = fZ H2289 0 2 := by rw [eH2289, fZ_sA]; exact e2280
          have e2291 : k0_19 = fZ H2289 0 19 := by rw [eH2289, fZ_sA]; exact e2281
          have e2292 : v2283 = fZ H2289 0 13 := by rw [eH2289, fZ_sA]; exact ev2283
          have jj2294_8 : (fZ H2289 0 8).toInt = (fZ H2271 0 8).toInt := by rw [eH2289, fZ_sA]
          have jj2295_10 : (fZ H2289 0 10).toInt = (fZ H2271 0 10).toInt := by rw [eH2289, fZ_sA]
          have jj2296_8 : (fZ H2289 0 8).toInt = (fZ H2271 0 8).toInt := by rw [eH2289, fZ_sA]
          have ie2292 : v2283.toInt = (fZ H2289 0 13).toInt := by rw [← e2292]
          refine g_iload_n rfl ?_
          refine g_aload_n rfl ?_
          refine g_gfr hIH2289 sm_0 rfl ?_
          refine g_iconst (by decide) (fun v2297 kv2297 => ?_)
          refine g_bipush (by decide) (fun v2298 kv2298 => ?_)
          refine g_iload_n rfl ?_
          refine g_imulk' (n := 8) kv2298 (by omega) (fun v2299 ev2299 => ?_)
          refine g_iadd (by omega) (fun v2300 ev2300 => ?_)
          refine g_iload_n rfl ?_
          refine g_iadd (by omega) (fun v2301 ev2301 => ?_)
          refine g_iaload hIH2289 sm_3 rfl (by omega) (fun v2302 ev2302 lv2302 uv2302 => ?_)
          refine g_if2_lt (fun c2303 => ?_) (fun c2303 => ?_)
          · refine g_aload_n rfl ?_
            refine g_gfr hIH2289 sm_0 rfl ?_
            refine g_iconst (by decide) (fun v2304 kv2304 => ?_)
            refine g_bipush (by decide) (fun v2305 kv2305 => ?_)
            refine g_iload_n rfl ?_
            refine g_imulk' (n := 8) kv2305 (by omega) (fun v2306 ev2306 => ?_)
            refine g_iadd (by omega) (fun v2307 ev2307 => ?_)
            refine g_iload_n rfl ?_
            refine g_iadd (by omega) (fun v2308 ev2308 => ?_)
            refine g_iload_n rfl ?_
            refine g_iastore hIH2289 sm_3 (by omega) (gz_any _) (fun H2309 eH2309 hIH2309 => ?_)
            have hJH2309 : JN H2309 := JN_s3 hIH2289 hJH2289 (by omega) (by omega) (by omega) eH2309
            have e2310 : k0_2 = fZ H2309 0 2 := by rw [eH2309, fZ_sA]; exact e2290
            have e2311 : k0_19 = fZ H2309 0 19 := by rw [eH2309, fZ_sA]; exact e2291
            have e2312 : v2283 = fZ H2309 0 13 := by rw [eH2309, fZ_sA]; exact e2292
            have jj2313_8 : (fZ H2309 0 8).toInt = (fZ H2289 0 8).toInt := by rw [eH2309, fZ_sA]
            have jj2314_10 : (fZ H2309 0 10).toInt = (fZ H2289 0 10).toInt := by rw [eH2309, fZ_sA]
            have jj2315_8 : (fZ H2309 0 8).toInt = (fZ H2289 0 8).toInt := by rw [eH2309, fZ_sA]
            have ie2312 : v2283.toInt = (fZ H2309 0 13).toInt := by rw [← e2312]
            refine g_aload_n rfl ?_
            refine g_gfr hIH2309 sm_0 rfl ?_
            refine g_iconst (by decide) (fun v2316 kv2316 => ?_)
            refine g_bipush (by decide) (fun v2317 kv2317 => ?_)
            refine g_iload_n rfl ?_
            refine g_imulk' (n := 8) kv2317 (by omega) (fun v2318 ev2318 => ?_)
            refine g_iadd (by omega) (fun v2319 ev2319 => ?_)
            refine g_iload_n rfl ?_
            refine g_iadd (by omega) (fun v2320 ev2320 => ?_)
            refine g_iload_n rfl ?_
            refine g_iastore hIH2309 sm_3 (by omega) (gz_any _) (fun H2321 eH2321 hIH2321 => ?_)
            have hJH2321 : JN H2321 := JN_s3 hIH2309 hJH2309 (by omega) (by omega) (by omega) eH2321
            have e2322 : k0_2 = fZ H2321 0 2 := by rw [eH2321, fZ_sA]; exact e2310
            have e2323 : k0_19 = fZ H2321 0 19 := by rw [eH2321, fZ_sA]; exact e2311
            have e2324 : v2283 = fZ H2321 0 13 := by rw [eH2321, fZ_sA]; exact e2312
            have jj2325_8 : (fZ H2321 0 8).toInt = (fZ H2309 0 8).toInt := by rw [eH2321, fZ_sA]
            have jj2326_10 : (fZ H2321 0 10).toInt = (fZ H2309 0 10).toInt := by rw [eH2321, fZ_sA]
            have jj2327_8 : (fZ H2321 0 8).toInt = (fZ H2309 0 8).toInt := by rw [eH2321, fZ_sA]
            have ie2324 : v2283.toInt = (fZ H2321 0 13).toInt := by rw [← e2324]
            exact g_ret ⟨rfl, hIH2321, hJH2321, (e2322.symm.trans ek0_2), (e2323.symm.trans ek0_19), (by omega)⟩
          · exact g_ret ⟨rfl, hIH2289, hJH2289, (e2290.symm.trans ek0_2), (e2291.symm.trans ek0_19), (by omega)⟩
        · exact g_ret ⟨rfl, hIH2271, hJH2271, (e2280.symm.trans ek0_2), (e2281.symm.trans ek0_19), (by omega)⟩
  · refine g_aload_n rfl ?_
    refine g_iconst (by decide) (fun v2328 kv2328 => ?_)
    refine g_invvv hI sm_0 rfl rfl rfl rfl (s_161 v2328 (by omega) H hI hJ) (fun H2329 r2330 => ?_)
    obtain ⟨hIH2329, hJH2329, w2331, w2332, w2333, w2334, m2335, p2336⟩ := r2330
    have e2337 : k0_2 = fZ H2329 0 2 := ek0_2.trans w2331.symm
    have e2338 : k0_8 = fZ H2329 0 8 := ek0_8.trans w2332.symm
    have e2339 : k0_19 = fZ H2329 0 19 := ek0_19.trans w2334.symm
    have iw2333 : (fZ H2329 0 10).toInt = (fZ H 0 10).toInt := by rw [w2333]
    have m2340 : ∀ i, aZ H2329 3 i = aZ H 3 i := fun i => (m2335 3 i).trans (mk3 i)
    have ie2338 : k0_8.toInt = (fZ H2329 0 8).toInt := by rw [← e2338]
    refine g_nop ?_
    refine g_aload_n rfl ?_
    refine g_invvv hIH2329 sm_0 rfl rfl rfl rfl (s_162 H2329 hIH2329 hJH2329) (fun H2341 r2342 => ?_)
    obtain ⟨hIH2341, hJH2341, w2343, w2344, w2345, m2346, p2347, p2348⟩ := r2342
    have e2349 : k0_2 = fZ H2341 0 2 := e2337.trans w2343.symm
    have e2350 : k0_19 = fZ H2341 0 19 := e2339.trans w2345.symm
    have iw2344 : (fZ H2341 0 13).toInt = (fZ H2329 0 13).toInt := by rw [w2344]
    have m2351 : ∀ i, aZ H2341 3 i = aZ H 3 i := fun i => (m2346 3 i).trans (m2340 i)
    refine g_aload_n rfl ?_
    refine g_invvi hIH2341 sm_0 rfl rfl rfl rfl (s_165 H2341 hIH2341 hJH2341) (fun v2354 H2352 r2353 => ?_)
    obtain ⟨hIH2352, hJH2352, bv2354, w2355, w2356, m2357, p2358, p2359⟩ := r2353
    have e2360 : k0_2 = fZ H2352 0 2 := e2349.trans w2355.symm
    have e2361 : k0_19 = fZ H2352 0 19 := e2350.trans w2356.symm
    have m2362 : ∀ i, aZ H2352 3 i = aZ H 3 i := fun i => (m2357 3 i).trans (m2351 i)
    refine g_istore_n (l' := [(0, .ref 0), (1, .int v2354)]) rfl rfl ?_
    refine g_aload_n rfl ?_
    refine g_gfi hIH2352 sm_0 rfl (fun v2363 ev2363 lv2363 uv2363 => ?_)
    have iev2363 : v2363.toInt = (fZ H2352 0 13).toInt := by rw [← ev2363]
    refine g_if_ne (fun c2364 => ?_) (fun c2364 => ?_)
    · refine g_aload_n rfl ?_
      refine g_invvi hIH2352 sm_0 rfl rfl rfl rfl (s_165 H2352 hIH2352 hJH2352) (fun v2367 H2365 r2366 => ?_)
      obtain ⟨hIH2365, hJH2365, bv2367, w2368, w2369, m2370, p2371, p2372⟩ := r2366
      have e2373 : k0_2 = fZ H2365 0 2 := e2360.trans w2368.symm
      have e2374 : k0_19 = fZ H2365 0 19 := e2361.trans w2369.symm
      have m2375 : ∀ i, aZ H2365 3 i = aZ H 3 i := fun i => (m2370 3 i).trans (m2362 i)
      refine g_istore_n (l' := [(0, .ref 0), (1, .int v2354), (2, .int v2367)]) rfl rfl ?_
      refine g_aload_n rfl ?_
      refine g_iconst (by decide) (fun v2376 kv2376 => ?_)
      refine g_bipush (by decide) (fun v2377 kv2377 => ?_)
      refine g_invvi hIH2365 sm_0 rfl rfl rfl rfl (s_163 v2376 v2377 H2365 hIH2365 hJH2365 (by omega)) (fun v2380 H2378 r2379 => ?_)
      obtain ⟨hIH2378, hJH2378, w2381, w2382, m2383, p2384, p2385, p2386⟩ := r2379
      have e2387 : k0_2 = fZ H2378 0 2 := e2373.trans w2381.symm
      have e2388 : k0_19 = fZ H2378 0 19 := e2374.trans w2382.symm
      have m2389 : ∀ i, aZ H2378 3 i = aZ H 3 i := fun i => (m2383 3 i).trans (m2375 i)
      refine g_istore_n (l' := [(0, .ref 0), (1, .int v2354), (2, .int v2367), (3, .int v2380)]) rfl rfl ?_
      refine g_aload_n rfl ?_
      refine g_gfi hIH2378 sm_0 rfl (fun v2390 ev2390 lv2390 uv2390 => ?_)
      have iev2390 : v2390.toInt = (fZ H2378 0 13).toInt := by rw [← ev2390]
      refine g_if_eq (fun c2391 => ?_) (fun c2391 => ?_)
      · refine g_aload_n rfl ?_
        refine g_gfr hIH2378 sm_0 rfl ?_
        refine g_iconst (by decide) (fun v2392 kv2392 => ?_)
        refine g_dup2 rfl ?_
        refine g_iaload hIH2378 sm_3 rfl (by omega) (fun v2393 ev2393 lv2393 uv2393 => ?_)
        have zv2393 : v2393.toInt = (aZ H 3 1).toInt := by rw [ev2393, show v2392.toInt.toNat = 1 from by omega, m2389]
        refine g_iconst (by decide) (fun v2394 kv2394 => ?_)
        refine g_iadd' (fun v2395 ov2395 => ?_)
        refine g_iastore hIH2378 sm_3 (by omega) (gz_any _) (fun H2396 eH2396 hIH2396 => ?_)
        have hJH2396 : JN H2396 := JN_s3 hIH2378 hJH2378 (by omega) (by omega) (by omega) eH2396
        have e2397 : k0_2 = fZ H2396 0 2 := by rw [eH2396, fZ_sA]; exact e2387
        have e2398 : k0_19 = fZ H2396 0 19 := by rw [eH2396, fZ_sA]; exact e2388
        have e2399 : v2390 = fZ H2396 0 13 := by rw [eH2396, fZ_sA]; exact ev2390
        have jj2401_8 : (fZ H2396 0 8).toInt = (fZ H2378 0 8).toInt := by rw [eH2396, fZ_sA]
        have jj2402_10 : (fZ H2396 0 10).toInt = (fZ H2378 0 10).toInt := by rw [eH2396, fZ_sA]
        have jj2403_8 : (fZ H2396 0 8).toInt = (fZ H2378 0 8).toInt := by rw [eH2396, fZ_sA]
        have ie2399 : v2390.toInt = (fZ H2396 0 13).toInt := by rw [← e2399]
        refine g_iload_n rfl ?_
        refine g_aload_n rfl ?_
        refine g_gfr hIH2396 sm_0 rfl ?_
        refine g_iconst (by decide) (fun v2404 kv2404 => ?_)
        refine g_bipush (by decide) (fun v2405 kv2405 => ?_)
        refine g_iload_n rfl ?_
        refine g_imulk' (n := 8) kv2405 (by omega) (fun v2406 ev2406 => ?_)
        refine g_iadd (by omega) (fun v2407 ev2407 => ?_)
        refine g_iload_n rfl ?_
        refine g_iadd (by omega) (fun v2408 ev2408 => ?_)
        refine g_iaload hIH2396 sm_3 rfl (by omega) (fun v2409 ev2409 lv2409 uv2409 => ?_)
        refine g_if2_lt (fun c2410 => ?_) (fun c2410 => ?_)
        · refine g_aload_n rfl ?_
          refine g_gfr hIH2396 sm_0 rfl ?_
          refine g_iconst (by decide) (fun v2411 kv2411 => ?_)
          refine g_bipush (by decide) (fun v2412 kv2412 => ?_)
          refine g_iload_n rfl ?_
          refine g_imulk' (n := 8) kv2412 (by omega) (fun v2413 ev2413 => ?_)
          refine g_iadd (by omega) (fun v2414 ev2414 => ?_)
          refine g_iload_n rfl ?_
          refine g_iadd (by omega) (fun v2415 ev2415 => ?_)
          refine g_iload_n rfl ?_
          refine g_iastore hIH2396 sm_3 (by omega) (gz_any _) (fun H2416 eH2416 hIH2416 => ?_)
          have hJH2416 : JN H2416 := JN_s3 hIH2396 hJH2396 (by omega) (by omega) (by omega) eH2416
          have e2417 : k0_2 = fZ H2416 0 2 := by rw [eH2416, fZ_sA]; exact e2397
          have e2418 : k0_19 = fZ H2416 0 19 := by rw [eH2416, fZ_sA]; exact e2398
          have e2419 : v2390 = fZ H2416 0 13 := by rw [eH2416, fZ_sA]; exact e2399
          have jj2420_8 : (fZ H2416 0 8).toInt = (fZ H2396 0 8).toInt := by rw [eH2416, fZ_sA]
          have jj2421_10 : (fZ H2416 0 10).toInt = (fZ H2396 0 10).toInt := by rw [eH2416, fZ_sA]
          have jj2422_8 : (fZ H2416 0 8).toInt = (fZ H2396 0 8).toInt := by rw [eH2416, fZ_sA]
          have ie2419 : v2390.toInt = (fZ H2416 0 13).toInt := by rw [← e2419]
          refine g_aload_n rfl ?_
          refine g_gfr hIH2416 sm_0 rfl ?_
          refine g_iconst (by decide) (fun v2423 kv2423 => ?_)
          refine g_bipush (by decide) (fun v2424 kv2424 => ?_)
          refine g_iload_n rfl ?_
          refine g_imulk' (n := 8) kv2424 (by omega) (fun v2425 ev2425 => ?_)
          refine g_iadd (by omega) (fun v2426 ev2426 => ?_)
          refine g_iload_n rfl ?_
          refine g_iadd (by omega) (fun v2427 ev2427 => ?_)
          refine g_iload_n rfl ?_
          refine g_iastore hIH2416 sm_3 (by omega) (gz_any _) (fun H2428 eH2428 hIH2428 => ?_)
          have hJH2428 : JN H2428 := JN_s3 hIH2416 hJH2416 (by omega) (by omega) (by omega) eH2428
          have e2429 : k0_2 = fZ H2428 0 2 := by rw [eH2428, fZ_sA]; exact e2417
          have e2430 : k0_19 = fZ H2428 0 19 := by rw [eH2428, fZ_sA]; exact e2418
          have e2431 : v2390 = fZ H2428 0 13 := by rw [eH2428, fZ_sA]; exact e2419
          have jj2432_8 : (fZ H2428 0 8).toInt = (fZ H2416 0 8).toInt := by rw [eH2428, fZ_sA]
          have jj2433_10 : (fZ H2428 0 10).toInt = (fZ H2416 0 10).toInt := by rw [eH2428, fZ_sA]
          have jj2434_8 : (fZ H2428 0 8).toInt = (fZ H2416 0 8).toInt := by rw [eH2428, fZ_sA]
          have ie2431 : v2390.toInt = (fZ H2428 0 13).toInt := by rw [← e2431]
          exact g_ret ⟨rfl, hIH2428, hJH2428, (e2429.symm.trans ek0_2), (e2430.symm.trans ek0_19), (by omega)⟩
        · exact g_ret ⟨rfl, hIH2396, hJH2396, (e2397.symm.trans ek0_2), (e2398.symm.trans ek0_19), (by omega)⟩
      · exact g_ret ⟨rfl, hIH2378, hJH2378, (e2387.symm.trans ek0_2), (e2388.symm.trans ek0_19), (by omega)⟩
    · refine g_aload_n rfl ?_
      refine g_invvi hIH2352 sm_0 rfl rfl rfl rfl (s_164 H2352 hIH2352 hJH2352) (fun v2437 H2435 r2436 => ?_)
      obtain ⟨rfl, bv2437⟩ := r2436
      refine g_iload_n rfl ?_
      refine g_if2_ne (fun c2438 => ?_) (fun c2438 => ?_)
      · refine g_aload_n rfl ?_
        refine g_invvi hIH2352 sm_0 rfl rfl rfl rfl (s_165 H2352 hIH2352 hJH2352) (fun v2441 H2439 r2440 => ?_)
        obtain ⟨hIH2439, hJH2439, bv2441, w2442, w2443, m2444, p2445, p2446⟩ := r2440
        have e2447 : k0_2 = fZ H2439 0 2 := e2360.trans w2442.symm
        have e2448 : k0_19 = fZ H2439 0 19 := e2361.trans w2443.symm
        have m2449 : ∀ i, aZ H2439 3 i = aZ H 3 i := fun i => (m2444 3 i).trans (m2362 i)
        refine g_istore_n (l' := [(0, .ref 0), (1, .int v2354), (2, .int v2441)]) rfl rfl ?_
        refine g_aload_n rfl ?_
        refine g_iconst (by decide) (fun v2450 kv2450 => ?_)
        refine g_bipush (by decide) (fun v2451 kv2451 => ?_)
        refine g_invvi hIH2439 sm_0 rfl rfl rfl rfl (s_163 v2450 v2451 H2439 hIH2439 hJH2439 (by omega)) (fun v2454 H2452 r2453 => ?_)
        obtain ⟨hIH2452, hJH2452, w2455, w2456, m2457, p2458, p2459, p2460⟩ := r2453
        have e2461 : k0_2 = fZ H2452 0 2 := e2447.trans w2455.symm
        have e2462 : k0_19 = fZ H2452 0 19 := e2448.trans w2456.symm
        have m2463 : ∀ i, aZ H2452 3 i = aZ H 3 i := fun i => (m2457 3 i).trans (m2449 i)
        refine g_istore_n (l' := [(0, .ref 0), (1, .int v2354), (2, .int v2441), (3, .int v2454)]) rfl rfl ?_
        refine g_aload_n rfl ?_
        refine g_gfi hIH2452 sm_0 rfl (fun v2464 ev2464 lv2464 uv2464 => ?_)
        have iev2464 : v2464.toInt = (fZ H2452 0 13).toInt := by rw [← ev2464]
        refine g_if_eq (fun c2465 => ?_) (fun c2465 => ?_)
        · refine g_aload_n rfl ?_
          refine g_gfr hIH2452 sm_0 rfl ?_
          refine g_iconst (by decide) (fun v2466 kv2466 => ?_)
          refine g_dup2 rfl ?_
          refine g_iaload hIH2452 sm_3 rfl (by omega) (fun v2467 ev2467 lv2467 uv2467 => ?_)
          have zv2467 : v2467.toInt = (aZ H 3 1).toInt := by rw [ev2467, show v2466.toInt.toNat = 1 from by omega, m2463]
          refine g_iconst (by decide) (fun v2468 kv2468 => ?_)
          refine g_iadd' (fun v2469 ov2469 => ?_)
          refine g_iastore hIH2452 sm_3 (by omega) (gz_any _) (fun H2470 eH2470 hIH2470 => ?_)
          have hJH2470 : JN H2470 := JN_s3 hIH2452 hJH2452 (by omega) (by omega) (by omega) eH2470
          have e2471 : k0_2 = fZ H2470 0 2 := by rw [eH2470, fZ_sA]; exact e2461
          have e2472 : k0_19 = fZ H2470 0 19 := by rw [eH2470, fZ_sA]; exact e2462
          have e2473 : v2464 = fZ H2470 0 13 := by rw [eH2470, fZ_sA]; exact ev2464
          have jj2475_8 : (fZ H2470 0 8).toInt = (fZ H2452 0 8).toInt := by rw [eH2470, fZ_sA]
          have jj2476_10 : (fZ H2470 0 10).toInt = (fZ H2452 0 10).toInt := by rw [eH2470, fZ_sA]
          have jj2477_8 : (fZ H2470 0 8).toInt = (fZ H2452 0 8).toInt := by rw [eH2470, fZ_sA]
          have ie2473 : v2464.toInt = (fZ H2470 0 13).toInt := by rw [← e2473]
          refine g_iload_n rfl ?_
          refine g_aload_n rfl ?_
          refine g_gfr hIH2470 sm_0 rfl ?_
          refine g_iconst (by decide) (fun v2478 kv2478 => ?_)
          refine g_bipush (by decide) (fun v2479 kv2479 => ?_)
          refine g_iload_n rfl ?_
          refine g_imulk' (n := 8) kv2479 (by omega) (fun v2480 ev2480 => ?_)
          refine g_iadd (by omega) (fun v2481 ev2481 => ?_)
          refine g_iload_n rfl ?_
          refine g_iadd (by omega) (fun v2482 ev2482 => ?_)
          refine g_iaload hIH2470 sm_3 rfl (by omega) (fun v2483 ev2483 lv2483 uv2483 => ?_)
          refine g_if2_lt (fun c2484 => ?_) (fun c2484 => ?_)
          · refine g_aload_n rfl ?_
            refine g_gfr hIH2470 sm_0 rfl ?_
            refine g_iconst (by decide) (fun v2485 kv2485 => ?_)
            refine g_bipush (by decide) (fun v2486 kv2486 => ?_)
            refine g_iload_n rfl ?_
            refine g_imulk' (n := 8) kv2486 (by omega) (fun v2487 ev2487 => ?_)
            refine g_iadd (by omega) (fun v2488 ev2488 => ?_)
            refine g_iload_n rfl ?_
            refine g_iadd (by omega) (fun v2489 ev2489 => ?_)
            refine g_iload_n rfl ?_
            refine g_iastore hIH2470 sm_3 (by omega) (gz_any _) (fun H2490 eH2490 hIH2490 => ?_)
            have hJH2490 : JN H2490 := JN_s3 hIH2470 hJH2470 (by omega) (by omega) (by omega) eH2490
            have e2491 : k0_2 = fZ H2490 0 2 := by rw [eH2490, fZ_sA]; exact e2471
            have e2492 : k0_19 = fZ H2490 0 19 := by rw [eH2490, fZ_sA]; exact e2472
            have e2493 : v2464 = fZ H2490 0 13 := by rw [eH2490, fZ_sA]; exact e2473
            have jj2494_8 : (fZ H2490 0 8).toInt = (fZ H2470 0 8).toInt := by rw [eH2490, fZ_sA]
            have jj2495_10 : (fZ H2490 0 10).toInt = (fZ H2470 0 10).toInt := by rw [eH2490, fZ_sA]
            have jj2496_8 : (fZ H2490 0 8).toInt = (fZ H2470 0 8).toInt := by rw [eH2490, fZ_sA]
            have ie2493 : v2464.toInt = (fZ H2490 0 13).toInt := by rw [← e2493]
            refine g_aload_n rfl ?_
            refine g_gfr hIH2490 sm_0 rfl ?_
            refine g_iconst (by decide) (fun v2497 kv2497 => ?_)
            refine g_bipush (by decide) (fun v2498 kv2498 => ?_)
            refine g_iload_n rfl ?_
            refine g_imulk' (n := 8) kv2498 (by omega) (fun v2499 ev2499 => ?_)
            refine g_iadd (by omega) (fun v2500 ev2500 => ?_)
            refine g_iload_n rfl ?_
            refine g_iadd (by omega) (fun v2501 ev2501 => ?_)
            refine g_iload_n rfl ?_
            refine g_iastore hIH2490 sm_3 (by omega) (gz_any _) (fun H2502 eH2502 hIH2502 => ?_)
            have hJH2502 : JN H2502 := JN_s3 hIH2490 hJH2490 (by omega) (by omega) (by omega) eH2502
            have e2503 : k0_2 = fZ H2502 0 2 := by rw [eH2502, fZ_sA]; exact e2491
            have e2504 : k0_19 = fZ H2502 0 19 := by rw [eH2502, fZ_sA]; exact e2492
            have e2505 : v2464 = fZ H2502 0 13 := by rw [eH2502, fZ_sA]; exact e2493
            have jj2506_8 : (fZ H2502 0 8).toInt = (fZ H2490 0 8).toInt := by rw [eH2502, fZ_sA]
            have jj2507_10 : (fZ H2502 0 10).toInt = (fZ H2490 0 10).toInt := by rw [eH2502, fZ_sA]
            have jj2508_8 : (fZ H2502 0 8).toInt = (fZ H2490 0 8).toInt := by rw [eH2502, fZ_sA]
            have ie2505 : v2464.toInt = (fZ H2502 0 13).toInt := by rw [← e2505]
            exact g_ret ⟨rfl, hIH2502, hJH2502, (e2503.symm.trans ek0_2), (e2504.symm.trans ek0_19), (by omega)⟩
          · exact g_ret ⟨rfl, hIH2470, hJH2470, (e2471.symm.trans ek0_2), (e2472.symm.trans ek0_19), (by omega)⟩
        · exact g_ret ⟨rfl, hIH2452, hJH2452, (e2461.symm.trans ek0_2), (e2462.symm.trans ek0_19), (by omega)⟩
      · refine g_aload_n rfl ?_
        refine g_iconst (by decide) (fun v2509 kv2509 => ?_)
        refine g_invvv hIH2352 sm_0 rfl rfl rfl rfl (s_161 v2509 (by omega) H2352 hIH2352 hJH2352) (fun H2510 r2511 => ?_)
        obtain ⟨hIH2510, hJH2510, w2512, w2513, w2514, w2515, m2516, p2517⟩ := r2511
        have e2518 : k0_2 = fZ H2510 0 2 := e2360.trans w2512.symm
        have e2519 : k0_19 = fZ H2510 0 19 := e2361.trans w2515.symm
        have iw2513 : (fZ H2510 0 8).toInt = (fZ H2352 0 8).toInt := by rw [w2513]
        have iw2514 : (fZ H2510 0 10).toInt = (fZ H2352 0 10).toInt := by rw [w2514]
        have m2520 : ∀ i, aZ H2510 3 i = aZ H 3 i := fun i => (m2516 3 i).trans (m2362 i)
        refine g_nop ?_
        refine g_aload_n rfl ?_
        refine g_invvi hIH2510 sm_0 rfl rfl rfl rfl (s_165 H2510 hIH2510 hJH2510) (fun v2523 H2521 r2522 => ?_)
        obtain ⟨hIH2521, hJH2521, bv2523, w2524, w2525, m2526, p2527, p2528⟩ := r2522
        have e2529 : k0_2 = fZ H2521 0 2 := e2518.trans w2524.symm
        have e2530 : k0_19 = fZ H2521 0 19 := e2519.trans w2525.symm
        have m2531 : ∀ i, aZ H2521 3 i = aZ H 3 i := fun i => (m2526 3 i).trans (m2520 i)
        refine g_istore_n (l' := [(0, .ref 0), (1, .int v2354), (2, .int v2523)]) rfl rfl ?_
        refine g_aload_n rfl ?_
        refine g_iconst (by decide) (fun v2532 kv2532 => ?_)
        refine g_bipush (by decide) (fun v2533 kv2533 => ?_)
        refine g_invvi hIH2521 sm_0 rfl rfl rfl rfl (s_163 v2532 v2533 H2521 hIH2521 hJH2521 (by omega)) (fun v2536 H2534 r2535 => ?_)
        obtain ⟨hIH2534, hJH2534, w2537, w2538, m2539, p2540, p2541, p2542⟩ := r2535
        have e2543 : k0_2 = fZ H2534 0 2 := e2529.trans w2537.symm
        have e2544 : k0_19 = fZ H2534 0 19 := e2530.trans w2538.symm
        have m2545 : ∀ i, aZ H2534 3 i = aZ H 3 i := fun i => (m2539 3 i).trans (m2531 i)
        refine g_istore_n (l' := [(0, .ref 0), (1, .int v2354), (2, .int v2523), (3, .int v2536)]) rfl rfl ?_
        refine g_aload_n rfl ?_
        refine g_gfi hIH2534 sm_0 rfl (fun v2546 ev2546 lv2546 uv2546 => ?_)
        have iev2546 : v2546.toInt = (fZ H2534 0 13).toInt := by rw [← ev2546]
        refine g_if_eq (fun c2547 => ?_) (fun c2547 => ?_)
        · refine g_aload_n rfl ?_
          refine g_gfr hIH2534 sm_0 rfl ?_
          refine g_iconst (by decide) (fun v2548 kv2548 => ?_)
          refine g_dup2 rfl ?_
          refine g_iaload hIH2534 sm_3 rfl (by omega) (fun v2549 ev2549 lv2549 uv2549 => ?_)
          have zv2549 : v2549.toInt = (aZ H 3 1).toInt := by rw [ev2549, show v2548.toInt.toNat = 1 from by omega, m2545]
          refine g_iconst (by decide) (fun v2550 kv2550 => ?_)
          refine g_iadd' (fun v2551 ov2551 => ?_)
          refine g_iastore hIH2534 sm_3 (by omega) (gz_any _) (fun H2552 eH2552 hIH2552 => ?_)
          have hJH2552 : JN H2552 := JN_s3 hIH2534 hJH2534 (by omega) (by omega) (by omega) eH2552
          have e2553 : k0_2 = fZ H2552 0 2 := by rw [eH2552, fZ_sA]; exact e2543
          have e2554 : k0_19 = fZ H2552 0 19 := by rw [eH2552, fZ_sA]; exact e2544
          have e2555 : v2546 = fZ H2552 0 13 := by rw [eH2552, fZ_sA]; exact ev2546
          have jj2557_8 : (fZ H2552 0 8).toInt = (fZ H2534 0 8).toInt := by rw [eH2552, fZ_sA]
          have jj2558_10 : (fZ H2552 0 10).toInt = (fZ H2534 0 10).toInt := by rw [eH2552, fZ_sA]
          have jj2559_8 : (fZ H2552 0 8).toInt = (fZ H2534 0 8).toInt := by rw [eH2552, fZ_sA]
          have ie2555 : v2546.toInt = (fZ H2552 0 13).toInt := by rw [← e2555]
          refine g_iload_n rfl ?_
          refine g_aload_n rfl ?_
          refine g_gfr hIH2552 sm_0 rfl ?_
          refine g_iconst (by decide) (fun v2560 kv2560 => ?_)
          refine g_bipush (by decide) (fun v2561 kv2561 => ?_)
          refine g_iload_n rfl ?_
          refine g_imulk' (n := 8) kv2561 (by omega) (fun v2562 ev2562 => ?_)
          refine g_iadd (by omega) (fun v2563 ev2563 => ?_)
          refine g_iload_n rfl ?_
          refine g_iadd (by omega) (fun v2564 ev2564 => ?_)
          refine g_iaload hIH2552 sm_3 rfl (by omega) (fun v2565 ev2565 lv2565 uv2565 => ?_)
          refine g_if2_lt (fun c2566 => ?_) (fun c2566 => ?_)
          · refine g_aload_n rfl ?_
            refine g_gfr hIH2552 sm_0 rfl ?_
            refine g_iconst (by decide) (fun v2567 kv2567 => ?_)
            refine g_bipush (by decide) (fun v2568 kv2568 => ?_)
            refine g_iload_n rfl ?_
            refine g_imulk' (n := 8) kv2568 (by omega) (fun v2569 ev2569 => ?_)
            refine g_iadd (by omega) (fun v2570 ev2570 => ?_)
            refine g_iload_n rfl ?_
            refine g_iadd (by omega) (fun v2571 ev2571 => ?_)
            refine g_iload_n rfl ?_
            refine g_iastore hIH2552 sm_3 (by omega) (gz_any _) (fun H2572 eH2572 hIH2572 => ?_)
            have hJH2572 : JN H2572 := JN_s3 hIH2552 hJH2552 (by omega) (by omega) (by omega) eH2572
            have e2573 : k0_2 = fZ H2572 0 2 := by rw [eH2572, fZ_sA]; exact e2553
            have e2574 : k0_19 = fZ H2572 0 19 := by rw [eH2572, fZ_sA]; exact e2554
            have e2575 : v2546 = fZ H2572 0 13 := by rw [eH2572, fZ_sA]; exact e2555
            have jj2576_8 : (fZ H2572 0 8).toInt = (fZ H2552 0 8).toInt := by rw [eH2572, fZ_sA]
            have jj2577_10 : (fZ H2572 0 10).toInt = (fZ H2552 0 10).toInt := by rw [eH2572, fZ_sA]
            have jj2578_8 : (fZ H2572 0 8).toInt = (fZ H2552 0 8).toInt := by rw [eH2572, fZ_sA]
            have ie2575 : v2546.toInt = (fZ H2572 0 13).toInt := by rw [← e2575]
            refine g_aload_n rfl ?_
            refine g_gfr hIH2572 sm_0 rfl ?_
            refine g_iconst (by decide) (fun v2579 kv2579 => ?_)
            refine g_bipush (by decide) (fun v2580 kv2580 => ?_)
            refine g_iload_n rfl ?_
            refine g_imulk' (n := 8) kv2580 (by omega) (fun v2581 ev2581 => ?_)
            refine g_iadd (by omega) (fun v2582 ev2582 => ?_)
            refine g_iload_n rfl ?_
            refine g_iadd (by omega) (fun v2583 ev2583 => ?_)
            refine g_iload_n rfl ?_
            refine g_iastore hIH2572 sm_3 (by omega) (gz_any _) (fun H2584 eH2584 hIH2584 => ?_)
            have hJH2584 : JN H2584 := JN_s3 hIH2572 hJH2572 (by omega) (by omega) (by omega) eH2584
            have e2585 : k0_2 = fZ H2584 0 2 := by rw [eH2584, fZ_sA]; exact e2573
            have e2586 : k0_19 = fZ H2584 0 19 := by rw [eH2584, fZ_sA]; exact e2574
            have e2587 : v2546 = fZ H2584 0 13 := by rw [eH2584, fZ_sA]; exact e2575
            have jj2588_8 : (fZ H2584 0 8).toInt = (fZ H2572 0 8).toInt := by rw [eH2584, fZ_sA]
            have jj2589_10 : (fZ H2584 0 10).toInt = (fZ H2572 0 10).toInt := by rw [eH2584, fZ_sA]
            have jj2590_8 : (fZ H2584 0 8).toInt = (fZ H2572 0 8).toInt := by rw [eH2584, fZ_sA]
            have ie2587 : v2546.toInt = (fZ H2584 0 13).toInt := by rw [← e2587]
            exact g_ret ⟨rfl, hIH2584, hJH2584, (e2585.symm.trans ek0_2), (e2586.symm.trans ek0_19), (by omega)⟩
          · exact g_ret ⟨rfl, hIH2552, hJH2552, (e2553.symm.trans ek0_2), (e2554.symm.trans ek0_19), (by omega)⟩
        · exact g_ret ⟨rfl, hIH2534, hJH2534, (e2543.symm.trans ek0_2), (e2544.symm.trans ek0_19), (by omega)⟩
set_option maxRecDepth 4000 in
set_option maxHeartbeats 4000000 in
/-- M.readFits -/
theorem s_168 (H : mzH) (hI : gI SM H) (hJ : JN H) : gCall 168 [.ref 0] H (gRv (fun H' => gI SM H' ∧ JN H' ∧ fZ H' 0 2 = fZ H 0 2 ∧ fZ H' 0 19 = fZ H 0 19 ∧ (fZ H 0 8).toInt ≤ (fZ H' 0 8).toInt)) := by
  obtain ⟨k0_2, ek0_2⟩ : ∃ z, z = fZ H 0 2 := ⟨_, rfl⟩
  have ik0_2 : k0_2.toInt = (fZ H 0 2).toInt := by rw [← ek0_2]
  have bk0_2 : 0 ≤ k0_2.toInt ∧ k0_2.toInt ≤ 900 := by rw [ek0_2]; exact fZ_of hI sm_0 rfl
  obtain ⟨k0_19, ek0_19⟩ : ∃ z, z = fZ H 0 19 := ⟨_, rfl⟩
  have ik0_19 : k0_19.toInt = (fZ H 0 19).toInt := by rw [← ek0_19]
  obtain ⟨k0_8, ek0_8⟩ : ∃ z, z = fZ H 0 8 := ⟨_, rfl⟩
  have ik0_8 : k0_8.toInt = (fZ H 0 8).toInt := by rw [← ek0_8]
  have bk0_8 : 0 ≤ k0_8.toInt ∧ k0_8.toInt ≤ 900 := by rw [ek0_8]; exact fZ_of hI sm_0 rfl
  obtain ⟨k0_13, ek0_13⟩ : ∃ z, z = fZ H 0 13 := ⟨_, rfl⟩
  have ik0_13 : k0_13.toInt = (fZ H 0 13).toInt := by rw [← ek0_13]
  have mk3 : ∀ i, aZ H 3 i = aZ H 3 i := fun _ => rfl
  refine gG_call [(0, .ref 0)] ⟨rfl, trivial⟩ ?_
  show gG 3 zB_168 (mzBlk zB_168 0) [(0, .ref 0)] [] H 0 0 _
  refine g_aload_n rfl ?_
  refine g_gfi hI sm_0 rfl (fun v597 ev597 lv597 uv597 => ?_)
  refine g_if_eq (fun c598 => ?_) (fun c598 => ?_)
  · refine g_aload_n rfl ?_
    refine g_iconst (by decide) (fun v599 kv599 => ?_)
    refine g_pfz hI sm_0 rfl (by omega) (fun H600 eH600 hIH600 => ?_)
    have hJH600 : JN H600 := JN_sF eH600 hJ
    have e601 : k0_2 = fZ H600 0 2 := by rw [eH600, fZ_sF_ne (by decide)]; exact ek0_2
    have e602 : k0_19 = fZ H600 0 19 := by rw [eH600, fZ_sF_ne (by decide)]; exact ek0_19
    have e603 : k0_8 = fZ H600 0 8 := by rw [eH600, fZ_sF_ne (by decide)]; exact ek0_8
    have e604 : k0_13 = fZ H600 0 13 := by rw [eH600, fZ_sF_ne (by decide)]; exact ek0_13
    have m605 : ∀ i, aZ H600 3 i = aZ H 3 i := fun i => (by rw [eH600, aZ_sF] : aZ H600 3 i = aZ H 3 i).trans (mk3 i)
    have jj606_10 : (fZ H600 0 10).toInt = (fZ H 0 10).toInt := by rw [eH600, fZ_sF_ne (by decide)]
    have ie603 : k0_8.toInt = (fZ H600 0 8).toInt := by rw [← e603]
    have ie604 : k0_13.toInt = (fZ H600 0 13).toInt := by rw [← e604]
    refine g_aload_n rfl ?_
    refine g_invvv hIH600 sm_0 rfl rfl rfl rfl (s_162 H600 hIH600 hJH600) (fun H607 r608 => ?_)
    obtain ⟨hIH607, hJH607, w609, w610, w611, m612, p613, p614⟩ := r608
    have e615 : k0_2 = fZ H607 0 2 := e601.trans w609.symm
    have e616 : k0_13 = fZ H607 0 13 := e604.trans w610.symm
    have e617 : k0_19 = fZ H607 0 19 := e602.trans w611.symm
    have m618 : ∀ i, aZ H607 3 i = aZ H 3 i := fun i => (m612 3 i).trans (m605 i)
    have ie616 : k0_13.toInt = (fZ H607 0 13).toInt := by rw [← e616]
    refine g_aload_n rfl ?_
    refine g_iconst (by decide) (fun v619 kv619 => ?_)
    refine g_bipush (by decide) (fun v620 kv620 => ?_)
    refine g_invvi hIH607 sm_0 rfl rfl rfl rfl (s_163 v619 v620 H607 hIH607 hJH607 (by omega)) (fun v623 H621 r622 => ?_)
    obtain ⟨hIH621, hJH621, w624, w625, m626, p627, p628, p629⟩ := r622
    have e630 : k0_2 = fZ H621 0 2 := e615.trans w624.symm
    have e631 : k0_19 = fZ H621 0 19 := e617.trans w625.symm
    have m632 : ∀ i, aZ H621 3 i = aZ H 3 i := fun i => (m626 3 i).trans (m618 i)
    refine g_istore_n (l' := [(0, .ref 0), (1, .int v623)]) rfl rfl ?_
    refine g_aload_n rfl ?_
    refine g_iconst (by decide) (fun v633 kv633 => ?_)
    refine g_bipush (by decide) (fun v634 kv634 => ?_)
    refine g_invvi hIH621 sm_0 rfl rfl rfl rfl (s_163 v633 v634 H621 hIH621 hJH621 (by omega)) (fun v637 H635 r636 => ?_)
    obtain ⟨hIH635, hJH635, w638, w639, m640, p641, p642, p643⟩ := r636
    have e644 : k0_2 = fZ H635 0 2 := e630.trans w638.symm
    have e645 : k0_19 = fZ H635 0 19 := e631.trans w639.symm
    have m646 : ∀ i, aZ H635 3 i = aZ H 3 i := fun i => (m640 3 i).trans (m632 i)
    refine g_istore_n (l' := [(0, .ref 0), (1, .int v623), (2, .int v637)]) rfl rfl ?_
    refine g_aload_n rfl ?_
    refine g_gfr hIH635 sm_0 rfl ?_
    refine g_iconst (by decide) (fun v647 kv647 => ?_)
    refine g_iload_n rfl ?_
    refine g_iastore hIH635 sm_3 (by omega) (gz_any _) (fun H648 eH648 hIH648 => ?_)
    have hJH648 : JN H648 := JN_s3 hIH635 hJH635 (by omega) (by omega) (by omega) eH648
    have e649 : k0_2 = fZ H648 0 2 := by rw [eH648, fZ_sA]; exact e644
    have e650 : k0_19 = fZ H648 0 19 := by rw [eH648, fZ_sA]; exact e645
    have jj652_8 : (fZ H648 0 8).toInt = (fZ H635 0 8).toInt := by rw [eH648, fZ_sA]
    have jj653_10 : (fZ H648 0 10).toInt = (fZ H635 0 10).toInt := by rw [eH648, fZ_sA]
    have jj654_13 : (fZ H648 0 13).toInt = (fZ H635 0 13).toInt := by rw [eH648, fZ_sA]
    have jj655_8 : (fZ H648 0 8).toInt = (fZ H635 0 8).toInt := by rw [eH648, fZ_sA]
    have jj656_13 : (fZ H648 0 13).toInt = (fZ H635 0 13).toInt := by rw [eH648, fZ_sA]
    refine g_aload_n rfl ?_
    refine g_gfr hIH648 sm_0 rfl ?_
    refine g_iconst (by decide) (fun v657 kv657 => ?_)
    refine g_iload_n rfl ?_
    refine g_iastore hIH648 sm_3 (by omega) (gz_any _) (fun H658 eH658 hIH658 => ?_)
    have hJH658 : JN H658 := JN_s3 hIH648 hJH648 (by omega) (by omega) (by omega) eH658
    have e659 : k0_2 = fZ H658 0 2 := by rw [eH658, fZ_sA]; exact e649
    have e660 : k0_19 = fZ H658 0 19 := by rw [eH658, fZ_sA]; exact e650
    have jj661_8 : (fZ H658 0 8).toInt = (fZ H648 0 8).toInt := by rw [eH658, fZ_sA]
    have jj662_10 : (fZ H658 0 10).toInt = (fZ H648 0 10).toInt := by rw [eH658, fZ_sA]
    have jj663_13 : (fZ H658 0 13).toInt = (fZ H648 0 13).toInt := by rw [eH658, fZ_sA]
    have jj664_8 : (fZ H658 0 8).toInt = (fZ H648 0 8).toInt := by rw [eH658, fZ_sA]
    have jj665_13 : (fZ H658 0 13).toInt = (fZ H648 0 13).toInt := by rw [eH658, fZ_sA]
    exact g_ret ⟨rfl, hIH658, hJH658, (e659.symm.trans ek0_2), (e660.symm.trans ek0_19), (by omega)⟩
  · refine g_aload_n rfl ?_
    refine g_iconst (by decide) (fun v666 kv666 => ?_)
    refine g_invvv hI sm_0 rfl rfl rfl rfl (s_161 v666 (by omega) H hI hJ) (fun H667 r668 => ?_)
    obtain ⟨hIH667, hJH667, w669, w670, w671, w672, m673, p674⟩ := r668
    have e675 : k0_2 = fZ H667 0 2 := ek0_2.trans w669.symm
    have e676 : k0_8 = fZ H667 0 8 := ek0_8.trans w670.symm
    have e677 : k0_19 = fZ H667 0 19 := ek0_19.trans w672.symm
    have iw671 : (fZ H667 0 10).toInt = (fZ H 0 10).toInt := by rw [w671]
    have m678 : ∀ i, aZ H667 3 i = aZ H 3 i := fun i => (m673 3 i).trans (mk3 i)
    have ie676 : k0_8.toInt = (fZ H667 0 8).toInt := by rw [← e676]
    refine g_nop ?_
    refine g_aload_n rfl ?_
    refine g_iconst (by decide) (fun v679 kv679 => ?_)
    refine g_pfz hIH667 sm_0 rfl (by omega) (fun H680 eH680 hIH680 => ?_)
    have hJH680 : JN H680 := JN_sF eH680 hJH667
    have e681 : k0_2 = fZ H680 0 2 := by rw [eH680, fZ_sF_ne (by decide)]; exact e675
    have e682 : k0_8 = fZ H680 0 8 := by rw [eH680, fZ_sF_ne (by decide)]; exact e676
    have e683 : k0_19 = fZ H680 0 19 := by rw [eH680, fZ_sF_ne (by decide)]; exact e677
    have m684 : ∀ i, aZ H680 3 i = aZ H 3 i := fun i => (by rw [eH680, aZ_sF] : aZ H680 3 i = aZ H667 3 i).trans (m678 i)
    have jj685_10 : (fZ H680 0 10).toInt = (fZ H667 0 10).toInt := by rw [eH680, fZ_sF_ne (by decide)]
    have jj686_13 : (fZ H680 0 13).toInt = (fZ H667 0 13).toInt := by rw [eH680, fZ_sF_ne (by decide)]
    have jj687_13 : (fZ H680 0 13).toInt = (fZ H667 0 13).toInt := by rw [eH680, fZ_sF_ne (by decide)]
    have ie682 : k0_8.toInt = (fZ H680 0 8).toInt := by rw [← e682]
    refine g_aload_n rfl ?_
    refine g_invvv hIH680 sm_0 rfl rfl rfl rfl (s_162 H680 hIH680 hJH680) (fun H688 r689 => ?_)
    obtain ⟨hIH688, hJH688, w690, w691, w692, m693, p694, p695⟩ := r689
    have e696 : k0_2 = fZ H688 0 2 := e681.trans w690.symm
    have e697 : k0_19 = fZ H688 0 19 := e683.trans w692.symm
    have iw691 : (fZ H688 0 13).toInt = (fZ H680 0 13).toInt := by rw [w691]
    have m698 : ∀ i, aZ H688 3 i = aZ H 3 i := fun i => (m693 3 i).trans (m684 i)
    refine g_aload_n rfl ?_
    refine g_iconst (by decide) (fun v699 kv699 => ?_)
    refine g_bipush (by decide) (fun v700 kv700 => ?_)
    refine g_invvi hIH688 sm_0 rfl rfl rfl rfl (s_163 v699 v700 H688 hIH688 hJH688 (by omega)) (fun v703 H701 r702 => ?_)
    obtain ⟨hIH701, hJH701, w704, w705, m706, p707, p708, p709⟩ := r702
    have e710 : k0_2 = fZ H701 0 2 := e696.trans w704.symm
    have e711 : k0_19 = fZ H701 0 19 := e697.trans w705.symm
    have m712 : ∀ i, aZ H701 3 i = aZ H 3 i := fun i => (m706 3 i).trans (m698 i)
    refine g_istore_n (l' := [(0, .ref 0), (1, .int v703)]) rfl rfl ?_
    refine g_aload_n rfl ?_
    refine g_iconst (by decide) (fun v713 kv713 => ?_)
    refine g_bipush (by decide) (fun v714 kv714 => ?_)
    refine g_invvi hIH701 sm_0 rfl rfl rfl rfl (s_163 v713 v714 H701 hIH701 hJH701 (by omega)) (fun v717 H715 r716 => ?_)
    obtain ⟨hIH715, hJH715, w718, w719, m720, p721, p722, p723⟩ := r716
    have e724 : k0_2 = fZ H715 0 2 := e710.trans w718.symm
    have e725 : k0_19 = fZ H715 0 19 := e711.trans w719.symm
    have m726 : ∀ i, aZ H715 3 i = aZ H 3 i := fun i => (m720 3 i).trans (m712 i)
    refine g_istore_n (l' := [(0, .ref 0), (1, .int v703), (2, .int v717)]) rfl rfl ?_
    refine g_aload_n rfl ?_
    refine g_gfr hIH715 sm_0 rfl ?_
    refine g_iconst (by decide) (fun v727 kv727 => ?_)
    refine g_iload_n rfl ?_
    refine g_iastore hIH715 sm_3 (by omega) (gz_any _) (fun H728 eH728 hIH728 => ?_)
    have hJH728 : JN H728 := JN_s3 hIH715 hJH715 (by omega) (by omega) (by omega) eH728
    have e729 : k0_2 = fZ H728 0 2 := by rw [eH728, fZ_sA]; exact e724
    have e730 : k0_19 = fZ H728 0 19 := by rw [eH728, fZ_sA]; exact e725
    have jj732_8 : (fZ H728 0 8).toInt = (fZ H715 0 8).toInt := by rw [eH728, fZ_sA]
    have jj733_10 : (fZ H728 0 10).toInt = (fZ H715 0 10).toInt := by rw [eH728, fZ_sA]
    have jj734_13 : (fZ H728 0 13).toInt = (fZ H715 0 13).toInt := by rw [eH728, fZ_sA]
    have jj735_8 : (fZ H728 0 8).toInt = (fZ H715 0 8).toInt := by rw [eH728, fZ_sA]
    have jj736_13 : (fZ H728 0 13).toInt = (fZ H715 0 13).toInt := by rw [eH728, fZ_sA]
    refine g_aload_n rfl ?_
    refine g_gfr hIH728 sm_0 rfl ?_
    refine g_iconst (by decide) (fun v737 kv737 => ?_)
    refine g_iload_n rfl ?_
    refine g_iastore hIH728 sm_3 (by omega) (gz_any _) (fun H738 eH738 hIH738 => ?_)
    have hJH738 : JN H738 := JN_s3 hIH728 hJH728 (by omega) (by omega) (by omega) eH738
    have e739 : k0_2 = fZ H738 0 2 := by rw [eH738, fZ_sA]; exact e729
    have e740 : k0_19 = fZ H738 0 19 := by rw [eH738, fZ_sA]; exact e730
    have jj741_8 : (fZ H738 0 8).toInt = (fZ H728 0 8).toInt := by rw [eH738, fZ_sA]
    have jj742_10 : (fZ H738 0 10).toInt = (fZ H728 0 10).toInt := by rw [eH738, fZ_sA]
    have jj743_13 : (fZ H738 0 13).toInt = (fZ H728 0 13).toInt := by rw [eH738, fZ_sA]
    have jj744_8 : (fZ H738 0 8).toInt = (fZ H728 0 8).toInt := by rw [eH738, fZ_sA]
    have jj745_13 : (fZ H738 0 13).toInt = (fZ H728 0 13).toInt := by rw [eH738, fZ_sA]
    exact g_ret ⟨rfl, hIH738, hJH738, (e739.symm.trans ek0_2), (e740.symm.trans ek0_19), (by omega)⟩
set_option maxRecDepth 4000 in
set_option maxHeartbeats 4000000 in
/-- M.kindHere -/
theorem s_169 (H : mzH) (hI : gI SM H) (hJ : JN H) : gCall 169 [.ref 0] H (gRi (fun v H' => gI SM H' ∧ JN H' ∧ (0 ≤ v.toInt ∧ v.toInt ≤ 2) ∧ fZ H' 0 2 = fZ H 0 2 ∧ fZ H' 0 19 = fZ H 0 19 ∧ (∀ a i, aZ H' a i = aZ H a i) ∧ ((fZ H' 0 13).toInt = 0 → (fZ H 0 13).toInt = 0) ∧ (fZ H 0 8).toInt ≤ (fZ H' 0 8).toInt)) := by
  obtain ⟨k0_2, ek0_2⟩ : ∃ z, z = fZ H 0 2 := ⟨_, rfl⟩
  have ik0_2 : k0_2.toInt = (fZ H 0 2).toInt := by rw [← ek0_2]
  have bk0_2 : 0 ≤ k0_2.toInt ∧ k0_2.toInt ≤ 900 := by rw [ek0_2]; exact fZ_of hI sm_0 rfl
  obtain ⟨k0_19, ek0_19⟩ : ∃ z, z = fZ H 0 19 := ⟨_, rfl⟩
  have ik0_19 : k0_19.toInt = (fZ H 0 19).toInt := by rw [← ek0_19]
  obtain ⟨k0_8, ek0_8⟩ : ∃ z, z = fZ H 0 8 := ⟨_, rfl⟩
  have ik0_8 : k0_8.toInt = (fZ H 0 8).toInt := by rw [← ek0_8]
  have bk0_8 : 0 ≤ k0_8.toInt ∧ k0_8.toInt ≤ 900 := by rw [ek0_8]; exact fZ_of hI sm_0 rfl
  obtain ⟨k0_13, ek0_13⟩ : ∃ z, z = fZ H 0 13 := ⟨_, rfl⟩
  have ik0_13 : k0_13.toInt = (fZ H 0 13).toInt := by rw [← ek0_13]
  obtain ⟨k0_10, ek0_10⟩ : ∃ z, z = fZ H 0 10 := ⟨_, rfl⟩
  have ik0_10 : k0_10.toInt = (fZ H 0 10).toInt := by rw [← ek0_10]
  have bk0_10 : 0 ≤ k0_10.toInt ∧ k0_10.toInt ≤ 4 := by rw [ek0_10]; exact fZ_of hI sm_0 rfl
  obtain ⟨k0_11, ek0_11⟩ : ∃ z, z = fZ H 0 11 := ⟨_, rfl⟩
  have ik0_11 : k0_11.toInt = (fZ H 0 11).toInt := by rw [← ek0_11]
  have mkall : ∀ a i, aZ H a i = aZ H a i := fun _ _ => rfl
  refine gG_call [(0, .ref 0)] ⟨rfl, trivial⟩ ?_
  show gG 3 zB_169 (mzBlk zB_169 0) [(0, .ref 0)] [] H 0 0 _
  refine g_aload_n rfl ?_
  refine g_gfk hI sm_0 rfl ek0_13 ?_
  refine g_if_ne (fun c557 => ?_) (fun c557 => ?_)
  · refine g_iconst (by decide) (fun v558 kv558 => ?_)
    refine g_nop ?_
    refine g_istore_n (l' := [(0, .ref 0), (1, .int v558)]) rfl rfl ?_
    refine g_iload_n rfl ?_
    refine g_if_ne (fun c559 => ?_) (fun c559 => ?_)
    · exfalso; omega
    · refine g_aload_n rfl ?_
      refine g_iconst (by decide) (fun v560 kv560 => ?_)
      refine g_invvv hI sm_0 rfl rfl rfl rfl (s_161 v560 (by omega) H hI hJ) (fun H561 r562 => ?_)
      obtain ⟨hIH561, hJH561, w563, w564, w565, w566, m567, p568⟩ := r562
      have e569 : k0_2 = fZ H561 0 2 := ek0_2.trans w563.symm
      have e570 : k0_8 = fZ H561 0 8 := ek0_8.trans w564.symm
      have e571 : k0_10 = fZ H561 0 10 := ek0_10.trans w565.symm
      have e572 : k0_19 = fZ H561 0 19 := ek0_19.trans w566.symm
      have m573 : ∀ a i, aZ H561 a i = aZ H a i := fun a i => (m567 a i).trans (mkall a i)
      have ie570 : k0_8.toInt = (fZ H561 0 8).toInt := by rw [← e570]
      have ie571 : k0_10.toInt = (fZ H561 0 10).toInt := by rw [← e571]
      refine g_nop ?_
      refine g_iload_n rfl ?_
      refine g_if_eq (fun c574 => ?_) (fun c574 => ?_)
      · refine g_iconst (by decide) (fun v575 kv575 => ?_)
        refine g_nop ?_
        refine g_istore_n (l' := [(0, .ref 0), (1, .int v558), (2, .int v575)]) rfl rfl ?_
        refine g_aload_n rfl ?_
        refine g_invvv hIH561 sm_0 rfl rfl rfl rfl (s_162 H561 hIH561 hJH561) (fun H576 r577 => ?_)
        obtain ⟨hIH576, hJH576, w578, w579, w580, m581, p582, p583⟩ := r577
        have e584 : k0_2 = fZ H576 0 2 := e569.trans w578.symm
        have e585 : k0_19 = fZ H576 0 19 := e572.trans w580.symm
        have iw579 : (fZ H576 0 13).toInt = (fZ H561 0 13).toInt := by rw [w579]
        have m586 : ∀ a i, aZ H576 a i = aZ H a i := fun a i => (m581 a i).trans (m573 a i)
        refine g_iload_n rfl ?_
        exact g_iret ⟨_, rfl, hIH576, hJH576, (by omega), (e584.symm.trans ek0_2), (e585.symm.trans ek0_19), m586, (by omega), (by omega)⟩
      · exfalso; omega
  · refine g_aload_n rfl ?_
    refine g_gfk hI sm_0 rfl ek0_10 ?_
    refine g_if_ne (fun c587 => ?_) (fun c587 => ?_)
    · refine g_iconst (by decide) (fun v588 kv588 => ?_)
      refine g_nop ?_
      refine g_istore_n (l' := [(0, .ref 0), (1, .int v588)]) rfl rfl ?_
      refine g_iload_n rfl ?_
      refine g_if_ne (fun c589 => ?_) (fun c589 => ?_)
      · exfalso; omega
      · refine g_aload_n rfl ?_
        refine g_iconst (by decide) (fun v590 kv590 => ?_)
        refine g_invvv hI sm_0 rfl rfl rfl rfl (s_161 v590 (by omega) H hI hJ) (fun H591 r592 => ?_)
        obtain ⟨hIH591, hJH591, w593, w594, w595, w596, m597, p598⟩ := r592
        have e599 : k0_2 = fZ H591 0 2 := ek0_2.trans w593.symm
        have e600 : k0_8 = fZ H591 0 8 := ek0_8.trans w594.symm
        have e601 : k0_10 = fZ H591 0 10 := ek0_10.trans w595.symm
        have e602 : k0_19 = fZ H591 0 19 := ek0_19.trans w596.symm
        have m603 : ∀ a i, aZ H591 a i = aZ H a i := fun a i => (m597 a i).trans (mkall a i)
        have ie600 : k0_8.toInt = (fZ H591 0 8).toInt := by rw [← e600]
        have ie601 : k0_10.toInt = (fZ H591 0 10).toInt := by rw [← e601]
        refine g_nop ?_
        refine g_iload_n rfl ?_
        refine g_if_eq (fun c604 => ?_) (fun c604 => ?_)
        · refine g_iconst (by decide) (fun v605 kv605 => ?_)
          refine g_nop ?_
          refine g_istore_n (l' := [(0, .ref 0), (1, .int v588), (2, .int v605)]) rfl rfl ?_
          refine g_aload_n rfl ?_
          refine g_invvv hIH591 sm_0 rfl rfl rfl rfl (s_162 H591 hIH591 hJH591) (fun H606 r607 => ?_)
          obtain ⟨hIH606, hJH606, w608, w609, w610, m611, p612, p613⟩ := r607
          have e614 : k0_2 = fZ H606 0 2 := e599.trans w608.symm
          have e615 : k0_19 = fZ H606 0 19 := e602.trans w610.symm
          have iw609 : (fZ H606 0 13).toInt = (fZ H591 0 13).toInt := by rw [w609]
          have m616 : ∀ a i, aZ H606 a i = aZ H a i := fun a i => (m611 a i).trans (m603 a i)
          refine g_iload_n rfl ?_
          exact g_iret ⟨_, rfl, hIH606, hJH606, (by omega), (e614.symm.trans ek0_2), (e615.symm.trans ek0_19), m616, (by omega), (by omega)⟩
        · exfalso; omega
    · refine g_aload_n rfl ?_
      refine g_gfk hI sm_0 rfl ek0_11 ?_
      refine g_bipush (by decide) (fun v617 kv617 => ?_)
      refine g_if2_lt (fun c618 => ?_) (fun c618 => ?_)
      · refine g_iconst (by decide) (fun v619 kv619 => ?_)
        refine g_nop ?_
        refine g_istore_n (l' := [(0, .ref 0), (1, .int v619)]) rfl rfl ?_
        refine g_iload_n rfl ?_
        refine g_if_ne (fun c620 => ?_) (fun c620 => ?_)
        · exfalso; omega
        · refine g_aload_n rfl ?_
          refine g_iconst (by decide) (fun v621 kv621 => ?_)
          refine g_invvv hI sm_0 rfl rfl rfl rfl (s_161 v621 (by omega) H hI hJ) (fun H622 r623 => ?_)
          obtain ⟨hIH622, hJH622, w624, w625, w626, w627, m628, p629⟩ := r623
          have e630 : k0_2 = fZ H622 0 2 := ek0_2.trans w624.symm
          have e631 : k0_8 = fZ H622 0 8 := ek0_8.trans w625.symm
          have e632 : k0_10 = fZ H622 0 10 := ek0_10.trans w626.symm
          have e633 : k0_19 = fZ H622 0 19 := ek0_19.trans w627.symm
          have m634 : ∀ a i, aZ H622 a i = aZ H a i := fun a i => (m628 a i).trans (mkall a i)
          have ie631 : k0_8.toInt = (fZ H622 0 8).toInt := by rw [← e631]
          have ie632 : k0_10.toInt = (fZ H622 0 10).toInt := by rw [← e632]
          refine g_nop ?_
          refine g_iload_n rfl ?_
          refine g_if_eq (fun c635 => ?_) (fun c635 => ?_)
          · refine g_iconst (by decide) (fun v636 kv636 => ?_)
            refine g_nop ?_
            refine g_istore_n (l' := [(0, .ref 0), (1, .int v619), (2, .int v636)]) rfl rfl ?_
            refine g_aload_n rfl ?_
            refine g_invvv hIH622 sm_0 rfl rfl rfl rfl (s_162 H622 hIH622 hJH622) (fun H637 r638 => ?_)
            obtain ⟨hIH637, hJH637, w639, w640, w641, m642, p643, p644⟩ := r638
            have e645 : k0_2 = fZ H637 0 2 := e630.trans w639.symm
            have e646 : k0_19 = fZ H637 0 19 := e633.trans w641.symm
            have iw640 : (fZ H637 0 13).toInt = (fZ H622 0 13).toInt := by rw [w640]
            have m647 : ∀ a i, aZ H637 a i = aZ H a i := fun a i => (m642 a i).trans (m634 a i)
            refine g_iload_n rfl ?_
            exact g_iret ⟨_, rfl, hIH637, hJH637, (by omega), (e645.symm.trans ek0_2), (e646.symm.trans ek0_19), m647, (by omega), (by omega)⟩
          · exfalso; omega
      · refine g_aload_n rfl ?_
        refine g_gfk hI sm_0 rfl ek0_11 ?_
        refine g_bipush (by decide) (fun v648 kv648 => ?_)
        refine g_if2_gt (fun c649 => ?_) (fun c649 => ?_)
        · refine g_iconst (by decide) (fun v650 kv650 => ?_)
          refine g_nop ?_
          refine g_istore_n (l' := [(0, .ref 0), (1, .int v650)]) rfl rfl ?_
          refine g_iload_n rfl ?_
          refine g_if_ne (fun c651 => ?_) (fun c651 => ?_)
          · exfalso; omega
          · refine g_aload_n rfl ?_
            refine g_iconst (by decide) (fun v652 kv652 => ?_)
            refine g_invvv hI sm_0 rfl rfl rfl rfl (s_161 v652 (by omega) H hI hJ) (fun H653 r654 => ?_)
            obtain ⟨hIH653, hJH653, w655, w656, w657, w658, m659, p660⟩ := r654
            have e661 : k0_2 = fZ H653 0 2 := ek0_2.trans w655.symm
            have e662 : k0_8 = fZ H653 0 8 := ek0_8.trans w656.symm
            have e663 : k0_10 = fZ H653 0 10 := ek0_10.trans w657.symm
            have e664 : k0_19 = fZ H653 0 19 := ek0_19.trans w658.symm
            have m665 : ∀ a i, aZ H653 a i = aZ H a i := fun a i => (m659 a i).trans (mkall a i)
            have ie662 : k0_8.toInt = (fZ H653 0 8).toInt := by rw [← e662]
            have ie663 : k0_10.toInt = (fZ H653 0 10).toInt := by rw [← e663]
            refine g_nop ?_
            refine g_iload_n rfl ?_
            refine g_if_eq (fun c666 => ?_) (fun c666 => ?_)
            · refine g_iconst (by decide) (fun v667 kv667 => ?_)
              refine g_nop ?_
              refine g_istore_n (l' := [(0, .ref 0), (1, .int v650), (2, .int v667)]) rfl rfl ?_
              refine g_aload_n rfl ?_
              refine g_invvv hIH653 sm_0 rfl rfl rfl rfl (s_162 H653 hIH653 hJH653) (fun H668 r669 => ?_)
              obtain ⟨hIH668, hJH668, w670, w671, w672, m673, p674, p675⟩ := r669
              have e676 : k0_2 = fZ H668 0 2 := e661.trans w670.symm
              have e677 : k0_19 = fZ H668 0 19 := e664.trans w672.symm
              have iw671 : (fZ H668 0 13).toInt = (fZ H653 0 13).toInt := by rw [w671]
              have m678 : ∀ a i, aZ H668 a i = aZ H a i := fun a i => (m673 a i).trans (m665 a i)
              refine g_iload_n rfl ?_
              exact g_iret ⟨_, rfl, hIH668, hJH668, (by omega), (e676.symm.trans ek0_2), (e677.symm.trans ek0_19), m678, (by omega), (by omega)⟩
            · exfalso; omega
        · refine g_iconst (by decide) (fun v679 kv679 => ?_)
          refine g_goto ?_
          refine g_istore_n (l' := [(0, .ref 0), (1, .int v679)]) rfl rfl ?_
          refine g_iload_n rfl ?_
          refine g_if_ne (fun c680 => ?_) (fun c680 => ?_)
          · refine g_iload_n rfl ?_
            refine g_if_eq (fun c681 => ?_) (fun c681 => ?_)
            · exfalso; omega
            · refine g_aload_n rfl ?_
              refine g_gfk hI sm_0 rfl ek0_11 ?_
              refine g_bipush (by decide) (fun v682 kv682 => ?_)
              refine g_isub (by omega) (fun v683 ev683 => ?_)
              refine g_goto ?_
              refine g_istore_n (l' := [(0, .ref 0), (1, .int v679), (2, .int v683)]) rfl rfl ?_
              refine g_aload_n rfl ?_
              refine g_invvv hI sm_0 rfl rfl rfl rfl (s_162 H hI hJ) (fun H684 r685 => ?_)
              obtain ⟨hIH684, hJH684, w686, w687, w688, m689, p690, p691⟩ := r685
              have e692 : k0_2 = fZ H684 0 2 := ek0_2.trans w686.symm
              have e693 : k0_13 = fZ H684 0 13 := ek0_13.trans w687.symm
              have e694 : k0_19 = fZ H684 0 19 := ek0_19.trans w688.symm
              have m695 : ∀ a i, aZ H684 a i = aZ H a i := fun a i => (m689 a i).trans (mkall a i)
              have ie693 : k0_13.toInt = (fZ H684 0 13).toInt := by rw [← e693]
              refine g_iload_n rfl ?_
              exact g_iret ⟨_, rfl, hIH684, hJH684, (by omega), (e692.symm.trans ek0_2), (e694.symm.trans ek0_19), m695, (by omega), (by omega)⟩
          · exfalso; omega
set_option maxRecDepth 4000 in
set_option maxHeartbeats 4000000 in
/-- M.readMessage -/
theorem s_170 (H : mzH) (hI : gI SM H) (hJ : JN H) : gCall 170 [.ref 0] H (gRv (fun H' => gI SM H' ∧ JN H' ∧ fZ H' 0 2 = fZ H 0 2 ∧ fZ H' 0 19 = fZ H 0 19 ∧ (fZ H 0 8).toInt ≤ (fZ H' 0 8).toInt)) := by
  obtain ⟨k0_2, ek0_2⟩ : ∃ z, z = fZ H 0 2 := ⟨_, rfl⟩
  have ik0_2 : k0_2.toInt = (fZ H 0 2).toInt := by rw [← ek0_2]
  have bk0_2 : 0 ≤ k0_2.toInt ∧ k0_2.toInt ≤ 900 := by rw [ek0_2]; exact fZ_of hI sm_0 rfl
  obtain ⟨k0_19, ek0_19⟩ : ∃ z, z = fZ H 0 19 := ⟨_, rfl⟩
  have ik0_19 : k0_19.toInt = (fZ H 0 19).toInt := by rw [← ek0_19]
  obtain ⟨k0_8, ek0_8⟩ : ∃ z, z = fZ H 0 8 := ⟨_, rfl⟩
  have ik0_8 : k0_8.toInt = (fZ H 0 8).toInt := by rw [← ek0_8]
  have bk0_8 : 0 ≤ k0_8.toInt ∧ k0_8.toInt ≤ 900 := by rw [ek0_8]; exact fZ_of hI sm_0 rfl
  obtain ⟨k0_13, ek0_13⟩ : ∃ z, z = fZ H 0 13 := ⟨_, rfl⟩
  have ik0_13 : k0_13.toInt = (fZ H 0 13).toInt := by rw [← ek0_13]
  have mk3 : ∀ i, aZ H 3 i = aZ H 3 i := fun _ => rfl
  refine gG_call [(0, .ref 0)] ⟨rfl, trivial⟩ ?_
  show gG 8 zB_170 (mzBlk zB_170 0) [(0, .ref 0)] [] H 0 0 _
  have L1572 : ∀ (v1561 : Int32) (v1562 : Int32) (v1563 : Int32) (v1564 : Int32) (v1565 : Int32) (v1566 : Int32) (v1567 : Int32) (H1568 : mzH), gI SM H1568 → JN H1568 → k0_2 = fZ H1568 0 2 → k0_19 = fZ H1568 0 19 → (∀ i, aZ H1568 3 i = aZ H 3 i) → (69 ≤ v1561.toInt ∧ v1561.toInt ≤ 369) → (0 ≤ v1562.toInt ∧ v1562.toInt ≤ 999) → (0 ≤ v1563.toInt ∧ v1563.toInt ≤ 1) → (0 ≤ v1565.toInt ∧ v1565.toInt ≤ 39) → (-2 ≤ v1566.toInt ∧ v1566.toInt ≤ 39) → (-1 ≤ v1567.toInt ∧ v1567.toInt ≤ 2) → (fZ H 0 8).toInt ≤ (fZ H1568 0 8).toInt → v1561.toInt = 69 + 5 * (aZ H 3 2).toInt → ((fZ H1568 0 13).toInt = 0 → (¬ (aZ H 3 2).toInt = 60 ∧ 0 ≤ v1564.toInt ∧ v1564.toInt ≤ 10 ∧ ((v1564.toInt = 0 ∨ v1564.toInt = 5 ∨ v1564.toInt = 6 ∨ v1564.toInt = 8) → (0 ≤ v1566.toInt ∧ v1566.toInt ≤ 7)) ∧ (v1564.toInt = 1 → (0 ≤ v1566.toInt ∧ v1566.toInt ≤ 39)) ∧ (v1564.toInt = 0 → (0 ≤ v1567.toInt ∧ v1567.toInt ≤ 2)))) → gG 8 zB_170 (mzBlk zB_170 8) [(0, .ref 0), (1, .int v1561), (2, .int v1562), (3, .int v1563), (4, .int v1564), (5, .int v1565), (6, .int v1566), (7, .int v1567)] [] H1568 0 0 (gRv (fun H' => gI SM H' ∧ JN H' ∧ fZ H' 0 2 = fZ H 0 2 ∧ fZ H' 0 19 = fZ H 0 19 ∧ (fZ H 0 8).toInt ≤ (fZ H' 0 8).toInt)) := by
    intro v1561 v1562 v1563 v1564 v1565 v1566 v1567 H1568 hIH1568 hJH1568 e1569 e1570 m1571 bv1561 bv1562 bv1563 bv1565 bv1566 bv1567 q0 q3 q5
    refine g_aload_n rfl ?_
    refine g_gfi hIH1568 sm_0 rfl (fun v1573 ev1573 lv1573 uv1573 => ?_)
    have iev1573 : v1573.toInt = (fZ H1568 0 13).toInt := by rw [← ev1573]
    refine g_if_eq (fun c1574 => ?_) (fun c1574 => ?_)
    · refine g_aload_n rfl ?_
      refine g_gfr hIH1568 sm_0 rfl ?_
      refine g_iload_n rfl ?_
      refine g_iload_n rfl ?_
      refine g_iastore hIH1568 sm_3 (by omega) (gz_any _) (fun H1575 eH1575 hIH1575 => ?_)
      have e1576 : k0_2 = fZ H1575 0 2 := by rw [eH1575, fZ_sA]; exact e1569
      have e1577 : k0_19 = fZ H1575 0 19 := by rw [eH1575, fZ_sA]; exact e1570
      have e1578 : v1573 = fZ H1575 0 13 := by rw [eH1575, fZ_sA]; exact ev1573
      have jj1580_8 : (fZ H1575 0 8).toInt = (fZ H1568 0 8).toInt := by rw [eH1575, fZ_sA]
      have jj1581_10 : (fZ H1575 0 10).toInt = (fZ H1568 0 10).toInt := by rw [eH1575, fZ_sA]
      have jj1582_11 : (fZ H1575 0 11).toInt = (fZ H1568 0 11).toInt := by rw [eH1575, fZ_sA]
      have jj1583_8 : (fZ H1575 0 8).toInt = (fZ H1568 0 8).toInt := by rw [eH1575, fZ_sA]
      have ie1578 : v1573.toInt = (fZ H1575 0 13).toInt := by rw [← e1578]
      refine g_aload_n rfl ?_
      refine g_gfr hIH1575 sm_0 rfl ?_
      refine g_iload_n rfl ?_
      refine g_iconst (by decide) (fun v1584 kv1584 => ?_)
      refine g_iadd (by omega) (fun v1585 ev1585 => ?_)
      refine g_iload rfl ?_
      refine g_iastore hIH1575 sm_3 (by omega) (gz_any _) (fun H1586 eH1586 hIH1586 => ?_)
      have e1587 : k0_2 = fZ H1586 0 2 := by rw [eH1586, fZ_sA]; exact e1576
      have e1588 : k0_19 = fZ H1586 0 19 := by rw [eH1586, fZ_sA]; exact e1577
      have e1589 : v1573 = fZ H1586 0 13 := by rw [eH1586, fZ_sA]; exact e1578
      have jj1590_8 : (fZ H1586 0 8).toInt = (fZ H1575 0 8).toInt := by rw [eH1586, fZ_sA]
      have jj1591_10 : (fZ H1586 0 10).toInt = (fZ H1575 0 10).toInt := by rw [eH1586, fZ_sA]
      have jj1592_11 : (fZ H1586 0 11).toInt = (fZ H1575 0 11).toInt := by rw [eH1586, fZ_sA]
      have jj1593_8 : (fZ H1586 0 8).toInt = (fZ H1575 0 8).toInt := by rw [eH1586, fZ_sA]
      have ie1589 : v1573.toInt = (fZ H1586 0 13).toInt := by rw [← e1589]
      refine g_aload_n rfl ?_
      refine g_gfr hIH1586 sm_0 rfl ?_
      refine g_iload_n rfl ?_
      refine g_iconst (by decide) (fun v1594 kv1594 => ?_)
      refine g_iadd (by omega) (fun v1595 ev1595 => ?_)
      refine g_iload rfl ?_
      refine g_iastore hIH1586 sm_3 (by omega) (gz_any _) (fun H1596 eH1596 hIH1596 => ?_)
      have e1597 : k0_2 = fZ H1596 0 2 := by rw [eH1596, fZ_sA]; exact e1587
      have e1598 : k0_19 = fZ H1596 0 19 := by rw [eH1596, fZ_sA]; exact e1588
      have e1599 : v1573 = fZ H1596 0 13 := by rw [eH1596, fZ_sA]; exact e1589
      have jj1600_8 : (fZ H1596 0 8).toInt = (fZ H1586 0 8).toInt := by rw [eH1596, fZ_sA]
      have jj1601_10 : (fZ H1596 0 10).toInt = (fZ H1586 0 10).toInt := by rw [eH1596, fZ_sA]
      have jj1602_11 : (fZ H1596 0 11).toInt = (fZ H1586 0 11).toInt := by rw [eH1596, fZ_sA]
      have jj1603_8 : (fZ H1596 0 8).toInt = (fZ H1586 0 8).toInt := by rw [eH1596, fZ_sA]
      have ie1599 : v1573.toInt = (fZ H1596 0 13).toInt := by rw [← e1599]
      refine g_aload_n rfl ?_
      refine g_gfr hIH1596 sm_0 rfl ?_
      refine g_iload_n rfl ?_
      refine g_iconst (by decide) (fun v1604 kv1604 => ?_)
      refine g_iadd (by omega) (fun v1605 ev1605 => ?_)
      refine g_iload rfl ?_
      refine g_iastore hIH1596 sm_3 (by omega) (gz_any _) (fun H1606 eH1606 hIH1606 => ?_)
      have e1607 : k0_2 = fZ H1606 0 2 := by rw [eH1606, fZ_sA]; exact e1597
      have e1608 : k0_19 = fZ H1606 0 19 := by rw [eH1606, fZ_sA]; exact e1598
      have e1609 : v1573 = fZ H1606 0 13 := by rw [eH1606, fZ_sA]; exact e1599
      have jj1610_8 : (fZ H1606 0 8).toInt = (fZ H1596 0 8).toInt := by rw [eH1606, fZ_sA]
      have jj1611_10 : (fZ H1606 0 10).toInt = (fZ H1596 0 10).toInt := by rw [eH1606, fZ_sA]
      have jj1612_11 : (fZ H1606 0 11).toInt = (fZ H1596 0 11).toInt := by rw [eH1606, fZ_sA]
      have jj1613_8 : (fZ H1606 0 8).toInt = (fZ H1596 0 8).toInt := by rw [eH1606, fZ_sA]
      have ie1609 : v1573.toInt = (fZ H1606 0 13).toInt := by rw [← e1609]
      refine g_aload_n rfl ?_
      refine g_gfr hIH1606 sm_0 rfl ?_
      refine g_iload_n rfl ?_
      refine g_iconst (by decide) (fun v1614 kv1614 => ?_)
      refine g_iadd (by omega) (fun v1615 ev1615 => ?_)
      refine g_iload rfl ?_
      refine g_iastore hIH1606 sm_3 (by omega) (gz_any _) (fun H1616 eH1616 hIH1616 => ?_)
      have hJH1616 : JN H1616 := JN_row hJH1568 hIH1568 hIH1575 hIH1586 hIH1596 hIH1606 (by omega) (by omega) (by omega) (by omega) (by omega) (by omega) (by omega) (by omega) (by omega) eH1575 eH1586 eH1596 eH1606 eH1616
      have m32 : aZ H1616 3 2 = aZ H 3 2 := (JM_row2 (by omega) (by omega) (by omega) (by omega) (by omega) eH1575 eH1586 eH1596 eH1606 eH1616).trans (m1571 2)
      have e1617 : k0_2 = fZ H1616 0 2 := by rw [eH1616, fZ_sA]; exact e1607
      have e1618 : k0_19 = fZ H1616 0 19 := by rw [eH1616, fZ_sA]; exact e1608
      have e1619 : v1573 = fZ H1616 0 13 := by rw [eH1616, fZ_sA]; exact e1609
      have jj1620_8 : (fZ H1616 0 8).toInt = (fZ H1606 0 8).toInt := by rw [eH1616, fZ_sA]
      have jj1621_10 : (fZ H1616 0 10).toInt = (fZ H1606 0 10).toInt := by rw [eH1616, fZ_sA]
      have jj1622_11 : (fZ H1616 0 11).toInt = (fZ H1606 0 11).toInt := by rw [eH1616, fZ_sA]
      have jj1623_8 : (fZ H1616 0 8).toInt = (fZ H1606 0 8).toInt := by rw [eH1616, fZ_sA]
      have ie1619 : v1573.toInt = (fZ H1616 0 13).toInt := by rw [← e1619]
      refine g_aload_n rfl ?_
      refine g_gfr hIH1616 sm_0 rfl ?_
      refine g_iconst (by decide) (fun v1624 kv1624 => ?_)
      refine g_dup2 rfl ?_
      refine g_iaload hIH1616 sm_3 rfl (by omega) (fun v1625 ev1625 lv1625 uv1625 => ?_)
      have qv1625 := JN_n32 hJH1616 (v := v1625) (by rw [ev1625, show v1624.toInt.toNat = 2 from by omega])
      have zv1625 : v1625.toInt = (aZ H 3 2).toInt := by rw [ev1625, show v1624.toInt.toNat = 2 from by omega, m32]
      refine g_iconst (by decide) (fun v1626 kv1626 => ?_)
      refine g_iadd (by omega) (fun v1627 ev1627 => ?_)
      refine g_iastore hIH1616 sm_3 (by omega) (gz_any _) (fun H1628 eH1628 hIH1628 => ?_)
      have hJH1628 : JN H1628 := JN_s3 hIH1616 hJH1616 (by omega) (by omega) (by omega) eH1628
      have e1629 : k0_2 = fZ H1628 0 2 := by rw [eH1628, fZ_sA]; exact e1617
      have e1630 : k0_19 = fZ H1628 0 19 := by rw [eH1628, fZ_sA]; exact e1618
      have e1631 : v1573 = fZ H1628 0 13 := by rw [eH1628, fZ_sA]; exact e1619
      have jj1632_8 : (fZ H1628 0 8).toInt = (fZ H1616 0 8).toInt := by rw [eH1628, fZ_sA]
      have jj1633_10 : (fZ H1628 0 10).toInt = (fZ H1616 0 10).toInt := by rw [eH1628, fZ_sA]
      have jj1634_11 : (fZ H1628 0 11).toInt = (fZ H1616 0 11).toInt := by rw [eH1628, fZ_sA]
      have jj1635_8 : (fZ H1628 0 8).toInt = (fZ H1616 0 8).toInt := by rw [eH1628, fZ_sA]
      have ie1631 : v1573.toInt = (fZ H1628 0 13).toInt := by rw [← e1631]
      exact g_ret ⟨rfl, hIH1628, hJH1628, (e1629.symm.trans ek0_2), (e1630.symm.trans ek0_19), (by omega)⟩
    · exact g_ret ⟨rfl, hIH1568, hJH1568, (e1569.symm.trans ek0_2), (e1570.symm.trans ek0_19), (by omega)⟩
  have L1643 : ∀ (v1636 : Int32) (v1637 : Int32) (v1638 : Int32) (H1639 : mzH), gI SM H1639 → JN H1639 → k0_2 = fZ H1639 0 2 → k0_19 = fZ H1639 0 19 → (∀ i, aZ H1639 3 i = aZ H 3 i) → (69 ≤ v1636.toInt ∧ v1636.toInt ≤ 369) → (0 ≤ v1637.toInt ∧ v1637.toInt ≤ 999) → (0 ≤ v1638.toInt ∧ v1638.toInt ≤ 1) → (fZ H 0 8).toInt ≤ (fZ H1639 0 8).toInt → ((fZ H1639 0 13).toInt = 0 → ¬ (aZ H 3 2).toInt = 60) → v1636.toInt = 69 + 5 * (aZ H 3 2).toInt → ((fZ H1639 0 13).toInt = 0 → (0 ≤ (fZ H1639 0 11).toInt ∧ (fZ H1639 0 11).toInt ≤ 10)) → gG 8 zB_170 (mzBlk zB_170 4) [(0, .ref 0), (1, .int v1636), (2, .int v1637), (3, .int v1638)] [] H1639 0 0 (gRv (fun H' => gI SM H' ∧ JN H' ∧ fZ H' 0 2 = fZ H 0 2 ∧ fZ H' 0 19 = fZ H 0 19 ∧ (fZ H 0 8).toInt ≤ (fZ H' 0 8).toInt)) := by
    intro v1636 v1637 v1638 H1639 hIH1639 hJH1639 e1640 e1641 m1642 bv1636 bv1637 bv1638 q0 q1 q3 q4
    refine g_aload_n rfl ?_
    refine g_gfi hIH1639 sm_0 rfl (fun v1644 ev1644 lv1644 uv1644 => ?_)
    have iev1644 : v1644.toInt = (fZ H1639 0 11).toInt := by rw [← ev1644]
    refine g_istore (l' := [(0, .ref 0), (1, .int v1636), (2, .int v1637), (3, .int v1638), (4, .int v1644)]) rfl rfl ?_
    refine g_aload_n rfl ?_
    refine g_invvv hIH1639 sm_0 rfl rfl rfl rfl (s_162 H1639 hIH1639 hJH1639) (fun H1645 r1646 => ?_)
    obtain ⟨hIH1645, hJH1645, w1647, w1648, w1649, m1650, p1651, p1652⟩ := r1646
    have e1653 : k0_2 = fZ H1645 0 2 := e1640.trans w1647.symm
    have e1654 : k0_19 = fZ H1645 0 19 := e1641.trans w1649.symm
    have iw1648 : (fZ H1645 0 13).toInt = (fZ H1639 0 13).toInt := by rw [w1648]
    have m1655 : ∀ i, aZ H1645 3 i = aZ H 3 i := fun i => (m1650 3 i).trans (m1642 i)
    refine g_aload_n rfl ?_
    refine g_iconst (by decide) (fun v1656 kv1656 => ?_)
    refine g_bipush (by decide) (fun v1657 kv1657 => ?_)
    refine g_invvi hIH1645 sm_0 rfl rfl rfl rfl (s_163 v1656 v1657 H1645 hIH1645 hJH1645 (by omega)) (fun v1660 H1658 r1659 => ?_)
    obtain ⟨hIH1658, hJH1658, w1661, w1662, m1663, p1664, p1665, p1666⟩ := r1659
    have e1667 : k0_2 = fZ H1658 0 2 := e1653.trans w1661.symm
    have e1668 : k0_19 = fZ H1658 0 19 := e1654.trans w1662.symm
    have m1669 : ∀ i, aZ H1658 3 i = aZ H 3 i := fun i => (m1663 3 i).trans (m1655 i)
    refine g_istore (l' := [(0, .ref 0), (1, .int v1636), (2, .int v1637), (3, .int v1638), (4, .int v1644), (5, .int v1660)]) rfl rfl ?_
    refine g_bipush (by decide) (fun v1670 kv1670 => ?_)
    refine g_istore (l' := [(0, .ref 0), (1, .int v1636), (2, .int v1637), (3, .int v1638), (4, .int v1644), (5, .int v1660), (6, .int v1670)]) rfl rfl ?_
    refine g_iconst (by decide) (fun v1671 kv1671 => ?_)
    refine g_istore (l' := [(0, .ref 0), (1, .int v1636), (2, .int v1637), (3, .int v1638), (4, .int v1644), (5, .int v1660), (6, .int v1670), (7, .int v1671)]) rfl rfl ?_
    refine g_aload_n rfl ?_
    refine g_gfi hIH1658 sm_0 rfl (fun v1672 ev1672 lv1672 uv1672 => ?_)
    have iev1672 : v1672.toInt = (fZ H1658 0 13).toInt := by rw [← ev1672]
    refine g_if_ne (fun c1673 => ?_) (fun c1673 => ?_)
    · refine g_aload_n rfl ?_
      refine g_gfk hIH1658 sm_0 rfl ev1672 ?_
      refine g_if_ne (fun c1674 => ?_) (fun c1674 => ?_)
      · refine g_aload_n rfl ?_
        refine g_gfk hIH1658 sm_0 rfl ev1672 ?_
        refine g_if_ne (fun c1675 => ?_) (fun c1675 => ?_)
        · exact L1572 v1636 v1637 v1638 v1644 v1660 v1670 v1671 H1658 hIH1658 hJH1658 e1667 e1668 m1669 (by omega) (by omega) (by omega) (by omega) (by omega) (by omega) (by omega) (by omega) (by omega)
        · refine g_iload rfl ?_
          refine g_if_eq (fun c1676 => ?_) (fun c1676 => ?_)
          · refine g_aload_n rfl ?_
            refine g_invvi hIH1658 sm_0 rfl rfl rfl rfl (s_165 H1658 hIH1658 hJH1658) (fun v1679 H1677 r1678 => ?_)
            obtain ⟨hIH1677, hJH1677, bv1679, w1680, w1681, m1682, p1683, p1684⟩ := r1678
            have e1685 : k0_2 = fZ H1677 0 2 := e1667.trans w1680.symm
            have e1686 : k0_19 = fZ H1677 0 19 := e1668.trans w1681.symm
            have m1687 : ∀ i, aZ H1677 3 i = aZ H 3 i := fun i => (m1682 3 i).trans (m1669 i)
            refine g_istore (l' := [(0, .ref 0), (1, .int v1636), (2, .int v1637), (3, .int v1638), (4, .int v1644), (5, .int v1660), (6, .int v1679), (7, .int v1671)]) rfl rfl ?_
            refine g_nop ?_
            exact L1572 v1636 v1637 v1638 v1644 v1660 v1679 v1671 H1677 hIH1677 hJH1677 e1685 e1686 m1687 (by omega) (by omega) (by omega) (by omega) (by omega) (by omega) (by omega) (by omega) (by omega)
          · refine g_iload rfl ?_
            refine g_iconst (by decide) (fun v1688 kv1688 => ?_)
            refine g_if2_eq (fun c1689 => ?_) (fun c1689 => ?_)
            · refine g_aload_n rfl ?_
              refine g_invvi hIH1658 sm_0 rfl rfl rfl rfl (s_165 H1658 hIH1658 hJH1658) (fun v1692 H1690 r1691 => ?_)
              obtain ⟨hIH1690, hJH1690, bv1692, w1693, w1694, m1695, p1696, p1697⟩ := r1691
              have e1698 : k0_2 = fZ H1690 0 2 := e1667.trans w1693.symm
              have e1699 : k0_19 = fZ H1690 0 19 := e1668.trans w1694.symm
              have m1700 : ∀ i, aZ H1690 3 i = aZ H 3 i := fun i => (m1695 3 i).trans (m1669 i)
              refine g_istore (l' := [(0, .ref 0), (1, .int v1636), (2, .int v1637), (3, .int v1638), (4, .int v1644), (5, .int v1660), (6, .int v1692), (7, .int v1671)]) rfl rfl ?_
              refine g_nop ?_
              exact L1572 v1636 v1637 v1638 v1644 v1660 v1692 v1671 H1690 hIH1690 hJH1690 e1698 e1699 m1700 (by omega) (by omega) (by omega) (by omega) (by omega) (by omega) (by omega) (by omega) (by omega)
            · refine g_iload rfl ?_
              refine g_bipush (by decide) (fun v1701 kv1701 => ?_)
              refine g_if2_eq (fun c1702 => ?_) (fun c1702 => ?_)
              · refine g_aload_n rfl ?_
                refine g_invvi hIH1658 sm_0 rfl rfl rfl rfl (s_165 H1658 hIH1658 hJH1658) (fun v1705 H1703 r1704 => ?_)
                obtain ⟨hIH1703, hJH1703, bv1705, w1706, w1707, m1708, p1709, p1710⟩ := r1704
                have e1711 : k0_2 = fZ H1703 0 2 := e1667.trans w1706.symm
                have e1712 : k0_19 = fZ H1703 0 19 := e1668.trans w1707.symm
                have m1713 : ∀ i, aZ H1703 3 i = aZ H 3 i := fun i => (m1708 3 i).trans (m1669 i)
                refine g_istore (l' := [(0, .ref 0), (1, .int v1636), (2, .int v1637), (3, .int v1638), (4, .int v1644), (5, .int v1660), (6, .int v1705), (7, .int v1671)]) rfl rfl ?_
                refine g_nop ?_
                exact L1572 v1636 v1637 v1638 v1644 v1660 v1705 v1671 H1703 hIH1703 hJH1703 e1711 e1712 m1713 (by omega) (by omega) (by omega) (by omega) (by omega) (by omega) (by omega) (by omega) (by omega)
              · refine g_iload rfl ?_
                refine g_bipush (by decide) (fun v1714 kv1714 => ?_)
                refine g_if2_ne (fun c1715 => ?_) (fun c1715 => ?_)
                · exact L1572 v1636 v1637 v1638 v1644 v1660 v1670 v1671 H1658 hIH1658 hJH1658 e1667 e1668 m1669 (by omega) (by omega) (by omega) (by omega) (by omega) (by omega) (by omega) (by omega) (by omega)
                · refine g_nop ?_
                  refine g_aload_n rfl ?_
                  refine g_invvi hIH1658 sm_0 rfl rfl rfl rfl (s_165 H1658 hIH1658 hJH1658) (fun v1718 H1716 r1717 => ?_)
                  obtain ⟨hIH1716, hJH1716, bv1718, w1719, w1720, m1721, p1722, p1723⟩ := r1717
                  have e1724 : k0_2 = fZ H1716 0 2 := e1667.trans w1719.symm
                  have e1725 : k0_19 = fZ H1716 0 19 := e1668.trans w1720.symm
                  have m1726 : ∀ i, aZ H1716 3 i = aZ H 3 i := fun i => (m1721 3 i).trans (m1669 i)
                  refine g_istore (l' := [(0, .ref 0), (1, .int v1636), (2, .int v1637), (3, .int v1638), (4, .int v1644), (5, .int v1660), (6, .int v1718), (7, .int v1671)]) rfl rfl ?_
                  refine g_nop ?_
                  exact L1572 v1636 v1637 v1638 v1644 v1660 v1718 v1671 H1716 hIH1716 hJH1716 e1724 e1725 m1726 (by omega) (by omega) (by omega) (by omega) (by omega) (by omega) (by omega) (by omega) (by omega)
      · refine g_iload rfl ?_
        refine g_iconst (by decide) (fun v1727 kv1727 => ?_)
        refine g_if2_ne (fun c1728 => ?_) (fun c1728 => ?_)
        · refine g_aload_n rfl ?_
          refine g_gfk hIH1658 sm_0 rfl ev1672 ?_
          refine g_if_ne (fun c1729 => ?_) (fun c1729 => ?_)
          · exfalso; omega
          · refine g_iload rfl ?_
            refine g_if_eq (fun c1730 => ?_) (fun c1730 => ?_)
            · refine g_aload_n rfl ?_
              refine g_invvi hIH1658 sm_0 rfl rfl rfl rfl (s_165 H1658 hIH1658 hJH1658) (fun v1733 H1731 r1732 => ?_)
              obtain ⟨hIH1731, hJH1731, bv1733, w1734, w1735, m1736, p1737, p1738⟩ := r1732
              have e1739 : k0_2 = fZ H1731 0 2 := e1667.trans w1734.symm
              have e1740 : k0_19 = fZ H1731 0 19 := e1668.trans w1735.symm
              have m1741 : ∀ i, aZ H1731 3 i = aZ H 3 i := fun i => (m1736 3 i).trans (m1669 i)
              refine g_istore (l' := [(0, .ref 0), (1, .int v1636), (2, .int v1637), (3, .int v1638), (4, .int v1644), (5, .int v1660), (6, .int v1733), (7, .int v1671)]) rfl rfl ?_
              refine g_nop ?_
              exact L1572 v1636 v1637 v1638 v1644 v1660 v1733 v1671 H1731 hIH1731 hJH1731 e1739 e1740 m1741 (by omega) (by omega) (by omega) (by omega) (by omega) (by omega) (by omega) (by omega) (by omega)
            · refine g_iload rfl ?_
              refine g_iconst (by decide) (fun v1742 kv1742 => ?_)
              refine g_if2_eq (fun c1743 => ?_) (fun c1743 => ?_)
              · refine g_aload_n rfl ?_
                refine g_invvi hIH1658 sm_0 rfl rfl rfl rfl (s_165 H1658 hIH1658 hJH1658) (fun v1746 H1744 r1745 => ?_)
                obtain ⟨hIH1744, hJH1744, bv1746, w1747, w1748, m1749, p1750, p1751⟩ := r1745
                have e1752 : k0_2 = fZ H1744 0 2 := e1667.trans w1747.symm
                have e1753 : k0_19 = fZ H1744 0 19 := e1668.trans w1748.symm
                have m1754 : ∀ i, aZ H1744 3 i = aZ H 3 i := fun i => (m1749 3 i).trans (m1669 i)
                refine g_istore (l' := [(0, .ref 0), (1, .int v1636), (2, .int v1637), (3, .int v1638), (4, .int v1644), (5, .int v1660), (6, .int v1746), (7, .int v1671)]) rfl rfl ?_
                refine g_nop ?_
                exact L1572 v1636 v1637 v1638 v1644 v1660 v1746 v1671 H1744 hIH1744 hJH1744 e1752 e1753 m1754 (by omega) (by omega) (by omega) (by omega) (by omega) (by omega) (by omega) (by omega) (by omega)
              · refine g_iload rfl ?_
                refine g_bipush (by decide) (fun v1755 kv1755 => ?_)
                refine g_if2_eq (fun c1756 => ?_) (fun c1756 => ?_)
                · refine g_aload_n rfl ?_
                  refine g_invvi hIH1658 sm_0 rfl rfl rfl rfl (s_165 H1658 hIH1658 hJH1658) (fun v1759 H1757 r1758 => ?_)
                  obtain ⟨hIH1757, hJH1757, bv1759, w1760, w1761, m1762, p1763, p1764⟩ := r1758
                  have e1765 : k0_2 = fZ H1757 0 2 := e1667.trans w1760.symm
                  have e1766 : k0_19 = fZ H1757 0 19 := e1668.trans w1761.symm
                  have m1767 : ∀ i, aZ H1757 3 i = aZ H 3 i := fun i => (m1762 3 i).trans (m1669 i)
                  refine g_istore (l' := [(0, .ref 0), (1, .int v1636), (2, .int v1637), (3, .int v1638), (4, .int v1644), (5, .int v1660), (6, .int v1759), (7, .int v1671)]) rfl rfl ?_
                  refine g_nop ?_
                  exact L1572 v1636 v1637 v1638 v1644 v1660 v1759 v1671 H1757 hIH1757 hJH1757 e1765 e1766 m1767 (by omega) (by omega) (by omega) (by omega) (by omega) (by omega) (by omega) (by omega) (by omega)
                · refine g_iload rfl ?_
                  refine g_bipush (by decide) (fun v1768 kv1768 => ?_)
                  refine g_if2_ne (fun c1769 => ?_) (fun c1769 => ?_)
                  · exact L1572 v1636 v1637 v1638 v1644 v1660 v1670 v1671 H1658 hIH1658 hJH1658 e1667 e1668 m1669 (by omega) (by omega) (by omega) (by omega) (by omega) (by omega) (by omega) (by omega) (by omega)
                  · refine g_nop ?_
                    refine g_aload_n rfl ?_
                    refine g_invvi hIH1658 sm_0 rfl rfl rfl rfl (s_165 H1658 hIH1658 hJH1658) (fun v1772 H1770 r1771 => ?_)
                    obtain ⟨hIH1770, hJH1770, bv1772, w1773, w1774, m1775, p1776, p1777⟩ := r1771
                    have e1778 : k0_2 = fZ H1770 0 2 := e1667.trans w1773.symm
                    have e1779 : k0_19 = fZ H1770 0 19 := e1668.trans w1774.symm
                    have m1780 : ∀ i, aZ H1770 3 i = aZ H 3 i := fun i => (m1775 3 i).trans (m1669 i)
                    refine g_istore (l' := [(0, .ref 0), (1, .int v1636), (2, .int v1637), (3, .int v1638), (4, .int v1644), (5, .int v1660), (6, .int v1772), (7, .int v1671)]) rfl rfl ?_
                    refine g_nop ?_
                    exact L1572 v1636 v1637 v1638 v1644 v1660 v1772 v1671 H1770 hIH1770 hJH1770 e1778 e1779 m1780 (by omega) (by omega) (by omega) (by omega) (by omega) (by omega) (by omega) (by omega) (by omega)
        · refine g_aload_n rfl ?_
          refine g_iconst (by decide) (fun v1781 kv1781 => ?_)
          refine g_bipush (by decide) (fun v1782 kv1782 => ?_)
          refine g_invvi hIH1658 sm_0 rfl rfl rfl rfl (s_163 v1781 v1782 H1658 hIH1658 hJH1658 (by omega)) (fun v1785 H1783 r1784 => ?_)
          obtain ⟨hIH1783, hJH1783, w1786, w1787, m1788, p1789, p1790, p1791⟩ := r1784
          have e1792 : k0_2 = fZ H1783 0 2 := e1667.trans w1786.symm
          have e1793 : k0_19 = fZ H1783 0 19 := e1668.trans w1787.symm
          have m1794 : ∀ i, aZ H1783 3 i = aZ H 3 i := fun i => (m1788 3 i).trans (m1669 i)
          refine g_istore (l' := [(0, .ref 0), (1, .int v1636), (2, .int v1637), (3, .int v1638), (4, .int v1644), (5, .int v1660), (6, .int v1785), (7, .int v1671)]) rfl rfl ?_
          refine g_goto ?_
          exact L1572 v1636 v1637 v1638 v1644 v1660 v1785 v1671 H1783 hIH1783 hJH1783 e1792 e1793 m1794 (by omega) (by omega) (by omega) (by omega) (by omega) (by omega) (by omega) (by omega) (by omega)
    · refine g_iload rfl ?_
      refine g_if_ne (fun c1795 => ?_) (fun c1795 => ?_)
      · refine g_aload_n rfl ?_
        refine g_gfk hIH1658 sm_0 rfl ev1672 ?_
        refine g_if_ne (fun c1796 => ?_) (fun c1796 => ?_)
        · exfalso; omega
        · refine g_iload rfl ?_
          refine g_iconst (by decide) (fun v1797 kv1797 => ?_)
          refine g_if2_ne (fun c1798 => ?_) (fun c1798 => ?_)
          · refine g_aload_n rfl ?_
            refine g_gfk hIH1658 sm_0 rfl ev1672 ?_
            refine g_if_ne (fun c1799 => ?_) (fun c1799 => ?_)
            · exfalso; omega
            · refine g_iload rfl ?_
              refine g_if_eq (fun c1800 => ?_) (fun c1800 => ?_)
              · refine g_aload_n rfl ?_
                refine g_invvi hIH1658 sm_0 rfl rfl rfl rfl (s_165 H1658 hIH1658 hJH1658) (fun v1803 H1801 r1802 => ?_)
                obtain ⟨hIH1801, hJH1801, bv1803, w1804, w1805, m1806, p1807, p1808⟩ := r1802
                have e1809 : k0_2 = fZ H1801 0 2 := e1667.trans w1804.symm
                have e1810 : k0_19 = fZ H1801 0 19 := e1668.trans w1805.symm
                have m1811 : ∀ i, aZ H1801 3 i = aZ H 3 i := fun i => (m1806 3 i).trans (m1669 i)
                refine g_istore (l' := [(0, .ref 0), (1, .int v1636), (2, .int v1637), (3, .int v1638), (4, .int v1644), (5, .int v1660), (6, .int v1803), (7, .int v1671)]) rfl rfl ?_
                refine g_nop ?_
                exact L1572 v1636 v1637 v1638 v1644 v1660 v1803 v1671 H1801 hIH1801 hJH1801 e1809 e1810 m1811 (by omega) (by omega) (by omega) (by omega) (by omega) (by omega) (by omega) (by omega) (by omega)
              · refine g_iload rfl ?_
                refine g_iconst (by decide) (fun v1812 kv1812 => ?_)
                refine g_if2_eq (fun c1813 => ?_) (fun c1813 => ?_)
                · refine g_aload_n rfl ?_
                  refine g_invvi hIH1658 sm_0 rfl rfl rfl rfl (s_165 H1658 hIH1658 hJH1658) (fun v1816 H1814 r1815 => ?_)
                  obtain ⟨hIH1814, hJH1814, bv1816, w1817, w1818, m1819, p1820, p1821⟩ := r1815
                  have e1822 : k0_2 = fZ H1814 0 2 := e1667.trans w1817.symm
                  have e1823 : k0_19 = fZ H1814 0 19 := e1668.trans w1818.symm
                  have m1824 : ∀ i, aZ H1814 3 i = aZ H 3 i := fun i => (m1819 3 i).trans (m1669 i)
                  refine g_istore (l' := [(0, .ref 0), (1, .int v1636), (2, .int v1637), (3, .int v1638), (4, .int v1644), (5, .int v1660), (6, .int v1816), (7, .int v1671)]) rfl rfl ?_
                  refine g_nop ?_
                  exact L1572 v1636 v1637 v1638 v1644 v1660 v1816 v1671 H1814 hIH1814 hJH1814 e1822 e1823 m1824 (by omega) (by omega) (by omega) (by omega) (by omega) (by omega) (by omega) (by omega) (by omega)
                · refine g_iload rfl ?_
                  refine g_bipush (by decide) (fun v1825 kv1825 => ?_)
                  refine g_if2_eq (fun c1826 => ?_) (fun c1826 => ?_)
                  · refine g_aload_n rfl ?_
                    refine g_invvi hIH1658 sm_0 rfl rfl rfl rfl (s_165 H1658 hIH1658 hJH1658) (fun v1829 H1827 r1828 => ?_)
                    obtain ⟨hIH1827, hJH1827, bv1829, w1830, w1831, m1832, p1833, p1834⟩ := r1828
                    have e1835 : k0_2 = fZ H1827 0 2 := e1667.trans w1830.symm
                    have e1836 : k0_19 = fZ H1827 0 19 := e1668.trans w1831.symm
                    have m1837 : ∀ i, aZ H1827 3 i = aZ H 3 i := fun i => (m1832 3 i).trans (m1669 i)
                    refine g_istore (l' := [(0, .ref 0), (1, .int v1636), (2, .int v1637), (3, .int v1638), (4, .int v1644), (5, .int v1660), (6, .int v1829), (7, .int v1671)]) rfl rfl ?_
                    refine g_nop ?_
                    exact L1572 v1636 v1637 v1638 v1644 v1660 v1829 v1671 H1827 hIH1827 hJH1827 e1835 e1836 m1837 (by omega) (by omega) (by omega) (by omega) (by omega) (by omega) (by omega) (by omega) (by omega)
                  · refine g_iload rfl ?_
                    refine g_bipush (by decide) (fun v1838 kv1838 => ?_)
                    refine g_if2_ne (fun c1839 => ?_) (fun c1839 => ?_)
                    · exact L1572 v1636 v1637 v1638 v1644 v1660 v1670 v1671 H1658 hIH1658 hJH1658 e1667 e1668 m1669 (by omega) (by omega) (by omega) (by omega) (by omega) (by omega) (by omega) (by omega) (by omega)
                    · refine g_nop ?_
                      refine g_aload_n rfl ?_
                      refine g_invvi hIH1658 sm_0 rfl rfl rfl rfl (s_165 H1658 hIH1658 hJH1658) (fun v1842 H1840 r1841 => ?_)
                      obtain ⟨hIH1840, hJH1840, bv1842, w1843, w1844, m1845, p1846, p1847⟩ := r1841
                      have e1848 : k0_2 = fZ H1840 0 2 := e1667.trans w1843.symm
                      have e1849 : k0_19 = fZ H1840 0 19 := e1668.trans w1844.symm
                      have m1850 : ∀ i, aZ H1840 3 i = aZ H 3 i := fun i => (m1845 3 i).trans (m1669 i)
                      refine g_istore (l' := [(0, .ref 0), (1, .int v1636), (2, .int v1637), (3, .int v1638), (4, .int v1644), (5, .int v1660), (6, .int v1842), (7, .int v1671)]) rfl rfl ?_
                      refine g_nop ?_
                      exact L1572 v1636 v1637 v1638 v1644 v1660 v1842 v1671 H1840 hIH1840 hJH1840 e1848 e1849 m1850 (by omega) (by omega) (by omega) (by omega) (by omega) (by omega) (by omega) (by omega) (by omega)
          · refine g_aload_n rfl ?_
            refine g_iconst (by decide) (fun v1851 kv1851 => ?_)
            refine g_bipush (by decide) (fun v1852 kv1852 => ?_)
            refine g_invvi hIH1658 sm_0 rfl rfl rfl rfl (s_163 v1851 v1852 H1658 hIH1658 hJH1658 (by omega)) (fun v1855 H1853 r1854 => ?_)
            obtain ⟨hIH1853, hJH1853, w1856, w1857, m1858, p1859, p1860, p1861⟩ := r1854
            have e1862 : k0_2 = fZ H1853 0 2 := e1667.trans w1856.symm
            have e1863 : k0_19 = fZ H1853 0 19 := e1668.trans w1857.symm
            have m1864 : ∀ i, aZ H1853 3 i = aZ H 3 i := fun i => (m1858 3 i).trans (m1669 i)
            refine g_istore (l' := [(0, .ref 0), (1, .int v1636), (2, .int v1637), (3, .int v1638), (4, .int v1644), (5, .int v1660), (6, .int v1855), (7, .int v1671)]) rfl rfl ?_
            refine g_goto ?_
            exact L1572 v1636 v1637 v1638 v1644 v1660 v1855 v1671 H1853 hIH1853 hJH1853 e1862 e1863 m1864 (by omega) (by omega) (by omega) (by omega) (by omega) (by omega) (by omega) (by omega) (by omega)
      · refine g_aload_n rfl ?_
        refine g_invvi hIH1658 sm_0 rfl rfl rfl rfl (s_169 H1658 hIH1658 hJH1658) (fun v1867 H1865 r1866 => ?_)
        obtain ⟨hIH1865, hJH1865, bv1867, w1868, w1869, m1870, p1871, p1872⟩ := r1866
        have e1873 : k0_2 = fZ H1865 0 2 := e1667.trans w1868.symm
        have e1874 : k0_19 = fZ H1865 0 19 := e1668.trans w1869.symm
        have m1875 : ∀ i, aZ H1865 3 i = aZ H 3 i := fun i => (m1870 3 i).trans (m1669 i)
        refine g_istore (l' := [(0, .ref 0), (1, .int v1636), (2, .int v1637), (3, .int v1638), (4, .int v1644), (5, .int v1660), (6, .int v1670), (7, .int v1867)]) rfl rfl ?_
        refine g_nop ?_
        refine g_aload_n rfl ?_
        refine g_gfi hIH1865 sm_0 rfl (fun v1876 ev1876 lv1876 uv1876 => ?_)
        have iev1876 : v1876.toInt = (fZ H1865 0 13).toInt := by rw [← ev1876]
        refine g_if_ne (fun c1877 => ?_) (fun c1877 => ?_)
        · refine g_aload_n rfl ?_
          refine g_gfk hIH1865 sm_0 rfl ev1876 ?_
          refine g_if_ne (fun c1878 => ?_) (fun c1878 => ?_)
          · exact L1572 v1636 v1637 v1638 v1644 v1660 v1670 v1867 H1865 hIH1865 hJH1865 e1873 e1874 m1875 (by omega) (by omega) (by omega) (by omega) (by omega) (by omega) (by omega) (by omega) (by omega)
          · refine g_iload rfl ?_
            refine g_if_eq (fun c1879 => ?_) (fun c1879 => ?_)
            · refine g_aload_n rfl ?_
              refine g_invvi hIH1865 sm_0 rfl rfl rfl rfl (s_165 H1865 hIH1865 hJH1865) (fun v1882 H1880 r1881 => ?_)
              obtain ⟨hIH1880, hJH1880, bv1882, w1883, w1884, m1885, p1886, p1887⟩ := r1881
              have e1888 : k0_2 = fZ H1880 0 2 := e1873.trans w1883.symm
              have e1889 : k0_19 = fZ H1880 0 19 := e1874.trans w1884.symm
              have m1890 : ∀ i, aZ H1880 3 i = aZ H 3 i := fun i => (m1885 3 i).trans (m1875 i)
              refine g_istore (l' := [(0, .ref 0), (1, .int v1636), (2, .int v1637), (3, .int v1638), (4, .int v1644), (5, .int v1660), (6, .int v1882), (7, .int v1867)]) rfl rfl ?_
              refine g_nop ?_
              exact L1572 v1636 v1637 v1638 v1644 v1660 v1882 v1867 H1880 hIH1880 hJH1880 e1888 e1889 m1890 (by omega) (by omega) (by omega) (by omega) (by omega) (by omega) (by omega) (by omega) (by omega)
            · exfalso; omega
        · refine g_iload rfl ?_
          refine g_iconst (by decide) (fun v1891 kv1891 => ?_)
          refine g_if2_ne (fun c1892 => ?_) (fun c1892 => ?_)
          · refine g_aload_n rfl ?_
            refine g_gfk hIH1865 sm_0 rfl ev1876 ?_
            refine g_if_ne (fun c1893 => ?_) (fun c1893 => ?_)
            · exfalso; omega
            · refine g_iload rfl ?_
              refine g_if_eq (fun c1894 => ?_) (fun c1894 => ?_)
              · refine g_aload_n rfl ?_
                refine g_invvi hIH1865 sm_0 rfl rfl rfl rfl (s_165 H1865 hIH1865 hJH1865) (fun v1897 H1895 r1896 => ?_)
                obtain ⟨hIH1895, hJH1895, bv1897, w1898, w1899, m1900, p1901, p1902⟩ := r1896
                have e1903 : k0_2 = fZ H1895 0 2 := e1873.trans w1898.symm
                have e1904 : k0_19 = fZ H1895 0 19 := e1874.trans w1899.symm
                have m1905 : ∀ i, aZ H1895 3 i = aZ H 3 i := fun i => (m1900 3 i).trans (m1875 i)
                refine g_istore (l' := [(0, .ref 0), (1, .int v1636), (2, .int v1637), (3, .int v1638), (4, .int v1644), (5, .int v1660), (6, .int v1897), (7, .int v1867)]) rfl rfl ?_
                refine g_nop ?_
                exact L1572 v1636 v1637 v1638 v1644 v1660 v1897 v1867 H1895 hIH1895 hJH1895 e1903 e1904 m1905 (by omega) (by omega) (by omega) (by omega) (by omega) (by omega) (by omega) (by omega) (by omega)
              · exfalso; omega
          · exfalso; omega
  have L1910 : ∀ (H1906 : mzH), gI SM H1906 → JN H1906 → k0_2 = fZ H1906 0 2 → k0_19 = fZ H1906 0 19 → (∀ i, aZ H1906 3 i = aZ H 3 i) → (fZ H 0 8).toInt ≤ (fZ H1906 0 8).toInt → ((fZ H1906 0 13).toInt = 0 → ¬ (aZ H 3 2).toInt = 60) → gG 8 zB_170 (mzBlk zB_170 1) [(0, .ref 0)] [] H1906 0 0 (gRv (fun H' => gI SM H' ∧ JN H' ∧ fZ H' 0 2 = fZ H 0 2 ∧ fZ H' 0 19 = fZ H 0 19 ∧ (fZ H 0 8).toInt ≤ (fZ H' 0 8).toInt)) := by
    intro H1906 hIH1906 hJH1906 e1907 e1908 m1909 q0 q1
    refine g_aload_n rfl ?_
    refine g_invvv hIH1906 sm_0 rfl rfl rfl rfl (s_162 H1906 hIH1906 hJH1906) (fun H1911 r1912 => ?_)
    obtain ⟨hIH1911, hJH1911, w1913, w1914, w1915, m1916, p1917, p1918⟩ := r1912
    have e1919 : k0_2 = fZ H1911 0 2 := e1907.trans w1913.symm
    have e1920 : k0_19 = fZ H1911 0 19 := e1908.trans w1915.symm
    have iw1914 : (fZ H1911 0 13).toInt = (fZ H1906 0 13).toInt := by rw [w1914]
    have m1921 : ∀ i, aZ H1911 3 i = aZ H 3 i := fun i => (m1916 3 i).trans (m1909 i)
    refine g_bipush (by decide) (fun v1922 kv1922 => ?_)
    refine g_iconst (by decide) (fun v1923 kv1923 => ?_)
    refine g_aload_n rfl ?_
    refine g_gfr hIH1911 sm_0 rfl ?_
    refine g_iconst (by decide) (fun v1924 kv1924 => ?_)
    refine g_iaload hIH1911 sm_3 rfl (by omega) (fun v1925 ev1925 lv1925 uv1925 => ?_)
    have qv1925 := JN_n32 hJH1911 (v := v1925) (by rw [ev1925, show v1924.toInt.toNat = 2 from by omega])
    have zv1925 : v1925.toInt = (aZ H 3 2).toInt := by rw [ev1925, show v1924.toInt.toNat = 2 from by omega, m1921]
    refine g_imulk' (n := 5) kv1923 (by omega) (fun v1926 ev1926 => ?_)
    refine g_iadd (by omega) (fun v1927 ev1927 => ?_)
    refine g_istore_n (l' := [(0, .ref 0), (1, .int v1927)]) rfl rfl ?_
    refine g_aload_n rfl ?_
    refine g_iconst (by decide) (fun v1928 kv1928 => ?_)
    refine g_sipush (by decide) (fun v1929 kv1929 => ?_)
    refine g_invvi hIH1911 sm_0 rfl rfl rfl rfl (s_163 v1928 v1929 H1911 hIH1911 hJH1911 (by omega)) (fun v1932 H1930 r1931 => ?_)
    obtain ⟨hIH1930, hJH1930, w1933, w1934, m1935, p1936, p1937, p1938⟩ := r1931
    have e1939 : k0_2 = fZ H1930 0 2 := e1919.trans w1933.symm
    have e1940 : k0_19 = fZ H1930 0 19 := e1920.trans w1934.symm
    have m1941 : ∀ i, aZ H1930 3 i = aZ H 3 i := fun i => (m1935 3 i).trans (m1921 i)
    refine g_istore_n (l' := [(0, .ref 0), (1, .int v1927), (2, .int v1932)]) rfl rfl ?_
    refine g_aload_n rfl ?_
    refine g_gfi hIH1930 sm_0 rfl (fun v1942 ev1942 lv1942 uv1942 => ?_)
    have iev1942 : v1942.toInt = (fZ H1930 0 13).toInt := by rw [← ev1942]
    refine g_if_ne (fun c1943 => ?_) (fun c1943 => ?_)
    · refine g_iconst (by decide) (fun v1944 kv1944 => ?_)
      refine g_nop ?_
      refine g_istore_n (l' := [(0, .ref 0), (1, .int v1927), (2, .int v1932), (3, .int v1944)]) rfl rfl ?_
      refine g_iload_n rfl ?_
      refine g_if_ne (fun c1945 => ?_) (fun c1945 => ?_)
      · exfalso; omega
      · refine g_aload_n rfl ?_
        refine g_iconst (by decide) (fun v1946 kv1946 => ?_)
        refine g_invvv hIH1930 sm_0 rfl rfl rfl rfl (s_161 v1946 (by omega) H1930 hIH1930 hJH1930) (fun H1947 r1948 => ?_)
        obtain ⟨hIH1947, hJH1947, w1949, w1950, w1951, w1952, m1953, p1954⟩ := r1948
        have e1955 : k0_2 = fZ H1947 0 2 := e1939.trans w1949.symm
        have e1956 : k0_19 = fZ H1947 0 19 := e1940.trans w1952.symm
        have iw1950 : (fZ H1947 0 8).toInt = (fZ H1930 0 8).toInt := by rw [w1950]
        have iw1951 : (fZ H1947 0 10).toInt = (fZ H1930 0 10).toInt := by rw [w1951]
        have m1957 : ∀ i, aZ H1947 3 i = aZ H 3 i := fun i => (m1953 3 i).trans (m1941 i)
        refine g_nop ?_
        exact L1643 v1927 v1932 v1944 H1947 hIH1947 hJH1947 e1955 e1956 m1957 (by omega) (by omega) (by omega) (by omega) (by omega) (by omega) (by omega)
    · refine g_aload_n rfl ?_
      refine g_gfi hIH1930 sm_0 rfl (fun v1958 ev1958 lv1958 uv1958 => ?_)
      have iev1958 : v1958.toInt = (fZ H1930 0 10).toInt := by rw [← ev1958]
      refine g_if_ne (fun c1959 => ?_) (fun c1959 => ?_)
      · refine g_iconst (by decide) (fun v1960 kv1960 => ?_)
        refine g_nop ?_
        refine g_istore_n (l' := [(0, .ref 0), (1, .int v1927), (2, .int v1932), (3, .int v1960)]) rfl rfl ?_
        refine g_iload_n rfl ?_
        refine g_if_ne (fun c1961 => ?_) (fun c1961 => ?_)
        · exfalso; omega
        · refine g_aload_n rfl ?_
          refine g_iconst (by decide) (fun v1962 kv1962 => ?_)
          refine g_invvv hIH1930 sm_0 rfl rfl rfl rfl (s_161 v1962 (by omega) H1930 hIH1930 hJH1930) (fun H1963 r1964 => ?_)
          obtain ⟨hIH1963, hJH1963, w1965, w1966, w1967, w1968, m1969, p1970⟩ := r1964
          have e1971 : k0_2 = fZ H1963 0 2 := e1939.trans w1965.symm
          have e1972 : v1958 = fZ H1963 0 10 := ev1958.trans w1967.symm
          have e1973 : k0_19 = fZ H1963 0 19 := e1940.trans w1968.symm
          have iw1966 : (fZ H1963 0 8).toInt = (fZ H1930 0 8).toInt := by rw [w1966]
          have m1974 : ∀ i, aZ H1963 3 i = aZ H 3 i := fun i => (m1969 3 i).trans (m1941 i)
          have ie1972 : v1958.toInt = (fZ H1963 0 10).toInt := by rw [← e1972]
          refine g_nop ?_
          exact L1643 v1927 v1932 v1960 H1963 hIH1963 hJH1963 e1971 e1973 m1974 (by omega) (by omega) (by omega) (by omega) (by omega) (by omega) (by omega)
      · refine g_aload_n rfl ?_
        refine g_gfi hIH1930 sm_0 rfl (fun v1975 ev1975 lv1975 uv1975 => ?_)
        have iev1975 : v1975.toInt = (fZ H1930 0 11).toInt := by rw [← ev1975]
        refine g_if_lt (fun c1976 => ?_) (fun c1976 => ?_)
        · refine g_iconst (by decide) (fun v1977 kv1977 => ?_)
          refine g_nop ?_
          refine g_istore_n (l' := [(0, .ref 0), (1, .int v1927), (2, .int v1932), (3, .int v1977)]) rfl rfl ?_
          refine g_iload_n rfl ?_
          refine g_if_ne (fun c1978 => ?_) (fun c1978 => ?_)
          · exfalso; omega
          · refine g_aload_n rfl ?_
            refine g_iconst (by decide) (fun v1979 kv1979 => ?_)
            refine g_invvv hIH1930 sm_0 rfl rfl rfl rfl (s_161 v1979 (by omega) H1930 hIH1930 hJH1930) (fun H1980 r1981 => ?_)
            obtain ⟨hIH1980, hJH1980, w1982, w1983, w1984, w1985, m1986, p1987⟩ := r1981
            have e1988 : k0_2 = fZ H1980 0 2 := e1939.trans w1982.symm
            have e1989 : v1958 = fZ H1980 0 10 := ev1958.trans w1984.symm
            have e1990 : k0_19 = fZ H1980 0 19 := e1940.trans w1985.symm
            have iw1983 : (fZ H1980 0 8).toInt = (fZ H1930 0 8).toInt := by rw [w1983]
            have m1991 : ∀ i, aZ H1980 3 i = aZ H 3 i := fun i => (m1986 3 i).trans (m1941 i)
            have ie1989 : v1958.toInt = (fZ H1980 0 10).toInt := by rw [← e1989]
            refine g_nop ?_
            exact L1643 v1927 v1932 v1977 H1980 hIH1980 hJH1980 e1988 e1990 m1991 (by omega) (by omega) (by omega) (by omega) (by omega) (by omega) (by omega)
        · refine g_aload_n rfl ?_
          refine g_gfk hIH1930 sm_0 rfl ev1975 ?_
          refine g_bipush (by decide) (fun v1992 kv1992 => ?_)
          refine g_if2_gt (fun c1993 => ?_) (fun c1993 => ?_)
          · refine g_iconst (by decide) (fun v1994 kv1994 => ?_)
            refine g_nop ?_
            refine g_istore_n (l' := [(0, .ref 0), (1, .int v1927), (2, .int v1932), (3, .int v1994)]) rfl rfl ?_
            refine g_iload_n rfl ?_
            refine g_if_ne (fun c1995 => ?_) (fun c1995 => ?_)
            · exfalso; omega
            · refine g_aload_n rfl ?_
              refine g_iconst (by decide) (fun v1996 kv1996 => ?_)
              refine g_invvv hIH1930 sm_0 rfl rfl rfl rfl (s_161 v1996 (by omega) H1930 hIH1930 hJH1930) (fun H1997 r1998 => ?_)
              obtain ⟨hIH1997, hJH1997, w1999, w2000, w2001, w2002, m2003, p2004⟩ := r1998
              have e2005 : k0_2 = fZ H1997 0 2 := e1939.trans w1999.symm
              have e2006 : v1958 = fZ H1997 0 10 := ev1958.trans w2001.symm
              have e2007 : k0_19 = fZ H1997 0 19 := e1940.trans w2002.symm
              have iw2000 : (fZ H1997 0 8).toInt = (fZ H1930 0 8).toInt := by rw [w2000]
              have m2008 : ∀ i, aZ H1997 3 i = aZ H 3 i := fun i => (m2003 3 i).trans (m1941 i)
              have ie2006 : v1958.toInt = (fZ H1997 0 10).toInt := by rw [← e2006]
              refine g_nop ?_
              exact L1643 v1927 v1932 v1994 H1997 hIH1997 hJH1997 e2005 e2007 m2008 (by omega) (by omega) (by omega) (by omega) (by omega) (by omega) (by omega)
          · refine g_iconst (by decide) (fun v2009 kv2009 => ?_)
            refine g_goto ?_
            refine g_istore_n (l' := [(0, .ref 0), (1, .int v1927), (2, .int v1932), (3, .int v2009)]) rfl rfl ?_
            refine g_iload_n rfl ?_
            refine g_if_ne (fun c2010 => ?_) (fun c2010 => ?_)
            · exact L1643 v1927 v1932 v2009 H1930 hIH1930 hJH1930 e1939 e1940 m1941 (by omega) (by omega) (by omega) (by omega) (by omega) (by omega) (by omega)
            · exfalso; omega
  refine g_aload_n rfl ?_
  refine g_gfr hI sm_0 rfl ?_
  refine g_iconst (by decide) (fun v2011 kv2011 => ?_)
  refine g_iaload hI sm_3 rfl (by omega) (fun v2012 ev2012 lv2012 uv2012 => ?_)
  have qv2012 := JN_n32 hJ (v := v2012) (by rw [ev2012, show v2011.toInt.toNat = 2 from by omega])
  have zv2012 : v2012.toInt = (aZ H 3 2).toInt := by rw [ev2012, show v2011.toInt.toNat = 2 from by omega, mk3]
  refine g_bipush (by decide) (fun v2013 kv2013 => ?_)
  refine g_if2_ne (fun c2014 => ?_) (fun c2014 => ?_)
  · exact L1910 H hI hJ ek0_2 ek0_19 mk3 (by omega) (by omega)
  · refine g_aload_n rfl ?_
    refine g_iconst (by decide) (fun v2015 kv2015 => ?_)
    refine g_invvv hI sm_0 rfl rfl rfl rfl (s_161 v2015 (by omega) H hI hJ) (fun H2016 r2017 => ?_)
    obtain ⟨hIH2016, hJH2016, w2018, w2019, w2020, w2021, m2022, p2023⟩ := r2017
    have e2024 : k0_2 = fZ H2016 0 2 := ek0_2.trans w2018.symm
    have e2025 : k0_8 = fZ H2016 0 8 := ek0_8.trans w2019.symm
    have e2026 : k0_19 = fZ H2016 0 19 := ek0_19.trans w2021.symm
    have iw2020 : (fZ H2016 0 10).toInt = (fZ H 0 10).toInt := by rw [w2020]
    have m2027 : ∀ i, aZ H2016 3 i = aZ H 3 i := fun i => (m2022 3 i).trans (mk3 i)
    have ie2025 : k0_8.toInt = (fZ H2016 0 8).toInt := by rw [← e2025]
    refine g_nop ?_
    exact L1910 H2016 hIH2016 hJH2016 e2024 e2026 m2027 (by omega) (by omega)
set_option maxRecDepth 4000 in
set_option maxHeartbeats 4000000 in
/-- M.readLine -/
theorem s_171 (a1 : Int32) (ha1 : 0 ≤ a1.toInt ∧ a1.toInt ≤ 1) (H : mzH) (hI : gI SM H) (hJ : JN H) : gCall 171 [.ref 0, .int a1] H (gRv (fun H' => gI SM H' ∧ JN H' ∧ fZ H' 0 2 = fZ H 0 2 ∧ (¬ (fZ H' 0 13).toInt = 0 ∨ (fZ H' 0 10).toInt = 3 ∨ (fZ H 0 8).toInt < (fZ H' 0 8).toInt))) := by
  obtain ⟨k0_2, ek0_2⟩ : ∃ z, z = fZ H 0 2 := ⟨_, rfl⟩
  have ik0_2 : k0_2.toInt = (fZ H 0 2).toInt := by rw [← ek0_2]
  have bk0_2 : 0 ≤ k0_2.toInt ∧ k0_2.toInt ≤ 900 := by rw [ek0_2]; exact fZ_of hI sm_0 rfl
  obtain ⟨k0_8, ek0_8⟩ : ∃ z, z = fZ H 0 8 := ⟨_, rfl⟩
  have ik0_8 : k0_8.toInt = (fZ H 0 8).toInt := by rw [← ek0_8]
  have bk0_8 : 0 ≤ k0_8.toInt ∧ k0_8.toInt ≤ 900 := by rw [ek0_8]; exact fZ_of hI sm_0 rfl
  obtain ⟨k0_13, ek0_13⟩ : ∃ z, z = fZ H 0 13 := ⟨_, rfl⟩
  have ik0_13 : k0_13.toInt = (fZ H 0 13).toInt := by rw [← ek0_13]
  refine gG_call [(0, .ref 0), (1, .int a1)] ⟨rfl, rfl, trivial⟩ ?_
  show gG 3 zB_171 (mzBlk zB_171 0) [(0, .ref 0), (1, .int a1)] [] H 0 0 _
  refine g_aload_n rfl ?_
  refine g_gfk hI sm_0 rfl ek0_13 ?_
  refine g_if_ne (fun c3157 => ?_) (fun c3157 => ?_)
  · refine g_iconst (by decide) (fun v3158 kv3158 => ?_)
    refine g_nop ?_
    refine g_istore_n (l' := [(0, .ref 0), (1, .int a1), (2, .int v3158)]) rfl rfl ?_
    refine g_iload_n rfl ?_
    refine g_bipush (by decide) (fun v3159 kv3159 => ?_)
    refine g_if2_ne (fun c3160 => ?_) (fun c3160 => ?_)
    · refine g_iload_n rfl ?_
      refine g_bipush (by decide) (fun v3161 kv3161 => ?_)
      refine g_if2_ne (fun c3162 => ?_) (fun c3162 => ?_)
      · refine g_iload_n rfl ?_
        refine g_bipush (by decide) (fun v3163 kv3163 => ?_)
        refine g_if2_ne (fun c3164 => ?_) (fun c3164 => ?_)
        · refine g_iload_n rfl ?_
          refine g_bipush (by decide) (fun v3165 kv3165 => ?_)
          refine g_if2_ne (fun c3166 => ?_) (fun c3166 => ?_)
          · refine g_aload_n rfl ?_
            refine g_iconst (by decide) (fun v3167 kv3167 => ?_)
            refine g_invvv hI sm_0 rfl rfl rfl rfl (s_161 v3167 (by omega) H hI hJ) (fun H3168 r3169 => ?_)
            obtain ⟨hIH3168, hJH3168, w3170, w3171, w3172, w3173, m3174, p3175⟩ := r3169
            have e3176 : k0_2 = fZ H3168 0 2 := ek0_2.trans w3170.symm
            have e3177 : k0_8 = fZ H3168 0 8 := ek0_8.trans w3171.symm
            have iw3172 : (fZ H3168 0 10).toInt = (fZ H 0 10).toInt := by rw [w3172]
            have ie3177 : k0_8.toInt = (fZ H3168 0 8).toInt := by rw [← e3177]
            refine g_nop ?_
            refine g_aload_n rfl ?_
            refine g_gfi hIH3168 sm_0 rfl (fun v3178 ev3178 lv3178 uv3178 => ?_)
            have iev3178 : v3178.toInt = (fZ H3168 0 13).toInt := by rw [← ev3178]
            refine g_if_ne (fun c3179 => ?_) (fun c3179 => ?_)
            · refine g_aload_n rfl ?_
              refine g_invvv hIH3168 sm_0 rfl rfl rfl rfl (s_162 H3168 hIH3168 hJH3168) (fun H3180 r3181 => ?_)
              obtain ⟨hIH3180, hJH3180, w3182, w3183, w3184, m3185, p3186, p3187⟩ := r3181
              have e3188 : k0_2 = fZ H3180 0 2 := e3176.trans w3182.symm
              have e3189 : v3178 = fZ H3180 0 13 := ev3178.trans w3183.symm
              have ie3189 : v3178.toInt = (fZ H3180 0 13).toInt := by rw [← e3189]
              refine g_aload_n rfl ?_
              refine g_dup rfl ?_
              refine g_gfi hIH3180 sm_0 rfl (fun v3190 ev3190 lv3190 uv3190 => ?_)
              refine g_iconst (by decide) (fun v3191 kv3191 => ?_)
              refine g_iadd' (fun v3192 ov3192 => ?_)
              refine g_pfi hIH3180 sm_0 rfl (gz_any _) (fun H3193 eH3193 hIH3193 => ?_)
              have hJH3193 : JN H3193 := JN_sF eH3193 hJH3180
              have e3194 : k0_2 = fZ H3193 0 2 := by rw [eH3193, fZ_sF_ne (by decide)]; exact e3188
              have e3195 : v3178 = fZ H3193 0 13 := by rw [eH3193, fZ_sF_ne (by decide)]; exact e3189
              have jj3196_8 : (fZ H3193 0 8).toInt = (fZ H3180 0 8).toInt := by rw [eH3193, fZ_sF_ne (by decide)]
              have jj3197_10 : (fZ H3193 0 10).toInt = (fZ H3180 0 10).toInt := by rw [eH3193, fZ_sF_ne (by decide)]
              have jj3198_8 : (fZ H3193 0 8).toInt = (fZ H3180 0 8).toInt := by rw [eH3193, fZ_sF_ne (by decide)]
              have ie3195 : v3178.toInt = (fZ H3193 0 13).toInt := by rw [← e3195]
              exact g_ret ⟨rfl, hIH3193, hJH3193, (e3194.symm.trans ek0_2), (by omega)⟩
            · refine g_aload_n rfl ?_
              refine g_gfi hIH3168 sm_0 rfl (fun v3199 ev3199 lv3199 uv3199 => ?_)
              have iev3199 : v3199.toInt = (fZ H3168 0 10).toInt := by rw [← ev3199]
              refine g_iconst (by decide) (fun v3200 kv3200 => ?_)
              refine g_if2_eq (fun c3201 => ?_) (fun c3201 => ?_)
              · refine g_aload_n rfl ?_
                refine g_invvv hIH3168 sm_0 rfl rfl rfl rfl (s_162 H3168 hIH3168 hJH3168) (fun H3202 r3203 => ?_)
                obtain ⟨hIH3202, hJH3202, w3204, w3205, w3206, m3207, p3208, p3209⟩ := r3203
                have e3210 : k0_2 = fZ H3202 0 2 := e3176.trans w3204.symm
                have e3211 : v3178 = fZ H3202 0 13 := ev3178.trans w3205.symm
                have ie3211 : v3178.toInt = (fZ H3202 0 13).toInt := by rw [← e3211]
                refine g_aload_n rfl ?_
                refine g_dup rfl ?_
                refine g_gfi hIH3202 sm_0 rfl (fun v3212 ev3212 lv3212 uv3212 => ?_)
                refine g_iconst (by decide) (fun v3213 kv3213 => ?_)
                refine g_iadd' (fun v3214 ov3214 => ?_)
                refine g_pfi hIH3202 sm_0 rfl (gz_any _) (fun H3215 eH3215 hIH3215 => ?_)
                have hJH3215 : JN H3215 := JN_sF eH3215 hJH3202
                have e3216 : k0_2 = fZ H3215 0 2 := by rw [eH3215, fZ_sF_ne (by decide)]; exact e3210
                have e3217 : v3178 = fZ H3215 0 13 := by rw [eH3215, fZ_sF_ne (by decide)]; exact e3211
                have jj3218_8 : (fZ H3215 0 8).toInt = (fZ H3202 0 8).toInt := by rw [eH3215, fZ_sF_ne (by decide)]
                have jj3219_10 : (fZ H3215 0 10).toInt = (fZ H3202 0 10).toInt := by rw [eH3215, fZ_sF_ne (by decide)]
                have jj3220_8 : (fZ H3215 0 8).toInt = (fZ H3202 0 8).toInt := by rw [eH3215, fZ_sF_ne (by decide)]
                have ie3217 : v3178.toInt = (fZ H3215 0 13).toInt := by rw [← e3217]
                exact g_ret ⟨rfl, hIH3215, hJH3215, (e3216.symm.trans ek0_2), (by omega)⟩
              · refine g_aload_n rfl ?_
                refine g_iconst (by decide) (fun v3221 kv3221 => ?_)
                refine g_invvv hIH3168 sm_0 rfl rfl rfl rfl (s_161 v3221 (by omega) H3168 hIH3168 hJH3168) (fun H3222 r3223 => ?_)
                obtain ⟨hIH3222, hJH3222, w3224, w3225, w3226, w3227, m3228, p3229⟩ := r3223
                have e3230 : k0_2 = fZ H3222 0 2 := e3176.trans w3224.symm
                have e3231 : k0_8 = fZ H3222 0 8 := e3177.trans w3225.symm
                have e3232 : v3199 = fZ H3222 0 10 := ev3199.trans w3226.symm
                have ie3231 : k0_8.toInt = (fZ H3222 0 8).toInt := by rw [← e3231]
                have ie3232 : v3199.toInt = (fZ H3222 0 10).toInt := by rw [← e3232]
                refine g_nop ?_
                refine g_aload_n rfl ?_
                refine g_invvv hIH3222 sm_0 rfl rfl rfl rfl (s_162 H3222 hIH3222 hJH3222) (fun H3233 r3234 => ?_)
                obtain ⟨hIH3233, hJH3233, w3235, w3236, w3237, m3238, p3239, p3240⟩ := r3234
                have e3241 : k0_2 = fZ H3233 0 2 := e3230.trans w3235.symm
                have iw3236 : (fZ H3233 0 13).toInt = (fZ H3222 0 13).toInt := by rw [w3236]
                refine g_aload_n rfl ?_
                refine g_dup rfl ?_
                refine g_gfi hIH3233 sm_0 rfl (fun v3242 ev3242 lv3242 uv3242 => ?_)
                refine g_iconst (by decide) (fun v3243 kv3243 => ?_)
                refine g_iadd' (fun v3244 ov3244 => ?_)
                refine g_pfi hIH3233 sm_0 rfl (gz_any _) (fun H3245 eH3245 hIH3245 => ?_)
                have hJH3245 : JN H3245 := JN_sF eH3245 hJH3233
                have e3246 : k0_2 = fZ H3245 0 2 := by rw [eH3245, fZ_sF_ne (by decide)]; exact e3241
                have jj3247_8 : (fZ H3245 0 8).toInt = (fZ H3233 0 8).toInt := by rw [eH3245, fZ_sF_ne (by decide)]
                have jj3248_10 : (fZ H3245 0 10).toInt = (fZ H3233 0 10).toInt := by rw [eH3245, fZ_sF_ne (by decide)]
                have jj3249_13 : (fZ H3245 0 13).toInt = (fZ H3233 0 13).toInt := by rw [eH3245, fZ_sF_ne (by decide)]
                have jj3250_8 : (fZ H3245 0 8).toInt = (fZ H3233 0 8).toInt := by rw [eH3245, fZ_sF_ne (by decide)]
                have jj3251_13 : (fZ H3245 0 13).toInt = (fZ H3233 0 13).toInt := by rw [eH3245, fZ_sF_ne (by decide)]
                exact g_ret ⟨rfl, hIH3245, hJH3245, (e3246.symm.trans ek0_2), (by omega)⟩
          · exfalso; omega
        · exfalso; omega
      · exfalso; omega
    · exfalso; omega
  · refine g_aload_n rfl ?_
    refine g_gfi hI sm_0 rfl (fun v3252 ev3252 lv3252 uv3252 => ?_)
    have iev3252 : v3252.toInt = (fZ H 0 10).toInt := by rw [← ev3252]
    refine g_if_ne (fun c3253 => ?_) (fun c3253 => ?_)
    · refine g_iconst (by decide) (fun v3254 kv3254 => ?_)
      refine g_nop ?_
      refine g_istore_n (l' := [(0, .ref 0), (1, .int a1), (2, .int v3254)]) rfl rfl ?_
      refine g_iload_n rfl ?_
      refine g_bipush (by decide) (fun v3255 kv3255 => ?_)
      refine g_if2_ne (fun c3256 => ?_) (fun c3256 => ?_)
      · refine g_iload_n rfl ?_
        refine g_bipush (by decide) (fun v3257 kv3257 => ?_)
        refine g_if2_ne (fun c3258 => ?_) (fun c3258 => ?_)
        · refine g_iload_n rfl ?_
          refine g_bipush (by decide) (fun v3259 kv3259 => ?_)
          refine g_if2_ne (fun c3260 => ?_) (fun c3260 => ?_)
          · refine g_iload_n rfl ?_
            refine g_bipush (by decide) (fun v3261 kv3261 => ?_)
            refine g_if2_ne (fun c3262 => ?_) (fun c3262 => ?_)
            · refine g_aload_n rfl ?_
              refine g_iconst (by decide) (fun v3263 kv3263 => ?_)
              refine g_invvv hI sm_0 rfl rfl rfl rfl (s_161 v3263 (by omega) H hI hJ) (fun H3264 r3265 => ?_)
              obtain ⟨hIH3264, hJH3264, w3266, w3267, w3268, w3269, m3270, p3271⟩ := r3265
              have e3272 : k0_2 = fZ H3264 0 2 := ek0_2.trans w3266.symm
              have e3273 : k0_8 = fZ H3264 0 8 := ek0_8.trans w3267.symm
              have e3274 : v3252 = fZ H3264 0 10 := ev3252.trans w3268.symm
              have ie3273 : k0_8.toInt = (fZ H3264 0 8).toInt := by rw [← e3273]
              have ie3274 : v3252.toInt = (fZ H3264 0 10).toInt := by rw [← e3274]
              refine g_nop ?_
              refine g_aload_n rfl ?_
              refine g_gfi hIH3264 sm_0 rfl (fun v3275 ev3275 lv3275 uv3275 => ?_)
              have iev3275 : v3275.toInt = (fZ H3264 0 13).toInt := by rw [← ev3275]
              refine g_if_ne (fun c3276 => ?_) (fun c3276 => ?_)
              · refine g_aload_n rfl ?_
                refine g_invvv hIH3264 sm_0 rfl rfl rfl rfl (s_162 H3264 hIH3264 hJH3264) (fun H3277 r3278 => ?_)
                obtain ⟨hIH3277, hJH3277, w3279, w3280, w3281, m3282, p3283, p3284⟩ := r3278
                have e3285 : k0_2 = fZ H3277 0 2 := e3272.trans w3279.symm
                have e3286 : v3275 = fZ H3277 0 13 := ev3275.trans w3280.symm
                have ie3286 : v3275.toInt = (fZ H3277 0 13).toInt := by rw [← e3286]
                refine g_aload_n rfl ?_
                refine g_dup rfl ?_
                refine g_gfi hIH3277 sm_0 rfl (fun v3287 ev3287 lv3287 uv3287 => ?_)
                refine g_iconst (by decide) (fun v3288 kv3288 => ?_)
                refine g_iadd' (fun v3289 ov3289 => ?_)
                refine g_pfi hIH3277 sm_0 rfl (gz_any _) (fun H3290 eH3290 hIH3290 => ?_)
                have hJH3290 : JN H3290 := JN_sF eH3290 hJH3277
                have e3291 : k0_2 = fZ H3290 0 2 := by rw [eH3290, fZ_sF_ne (by decide)]; exact e3285
                have e3292 : v3275 = fZ H3290 0 13 := by rw [eH3290, fZ_sF_ne (by decide)]; exact e3286
                have jj3293_8 : (fZ H3290 0 8).toInt = (fZ H3277 0 8).toInt := by rw [eH3290, fZ_sF_ne (by decide)]
                have jj3294_10 : (fZ H3290 0 10).toInt = (fZ H3277 0 10).toInt := by rw [eH3290, fZ_sF_ne (by decide)]
                have jj3295_8 : (fZ H3290 0 8).toInt = (fZ H3277 0 8).toInt := by rw [eH3290, fZ_sF_ne (by decide)]
                have ie3292 : v3275.toInt = (fZ H3290 0 13).toInt := by rw [← e3292]
                exact g_ret ⟨rfl, hIH3290, hJH3290, (e3291.symm.trans ek0_2), (by omega)⟩
              · refine g_aload_n rfl ?_
                refine g_gfk hIH3264 sm_0 rfl e3274 ?_
                refine g_iconst (by decide) (fun v3296 kv3296 => ?_)
                refine g_if2_eq (fun c3297 => ?_) (fun c3297 => ?_)
                · refine g_aload_n rfl ?_
                  refine g_invvv hIH3264 sm_0 rfl rfl rfl rfl (s_162 H3264 hIH3264 hJH3264) (fun H3298 r3299 => ?_)
                  obtain ⟨hIH3298, hJH3298, w3300, w3301, w3302, m3303, p3304, p3305⟩ := r3299
                  have e3306 : k0_2 = fZ H3298 0 2 := e3272.trans w3300.symm
                  have e3307 : v3275 = fZ H3298 0 13 := ev3275.trans w3301.symm
                  have ie3307 : v3275.toInt = (fZ H3298 0 13).toInt := by rw [← e3307]
                  refine g_aload_n rfl ?_
                  refine g_dup rfl ?_
                  refine g_gfi hIH3298 sm_0 rfl (fun v3308 ev3308 lv3308 uv3308 => ?_)
                  refine g_iconst (by decide) (fun v3309 kv3309 => ?_)
                  refine g_iadd' (fun v3310 ov3310 => ?_)
                  refine g_pfi hIH3298 sm_0 rfl (gz_any _) (fun H3311 eH3311 hIH3311 => ?_)
                  have hJH3311 : JN H3311 := JN_sF eH3311 hJH3298
                  have e3312 : k0_2 = fZ H3311 0 2 := by rw [eH3311, fZ_sF_ne (by decide)]; exact e3306
                  have e3313 : v3275 = fZ H3311 0 13 := by rw [eH3311, fZ_sF_ne (by decide)]; exact e3307
                  have jj3314_8 : (fZ H3311 0 8).toInt = (fZ H3298 0 8).toInt := by rw [eH3311, fZ_sF_ne (by decide)]
                  have jj3315_10 : (fZ H3311 0 10).toInt = (fZ H3298 0 10).toInt := by rw [eH3311, fZ_sF_ne (by decide)]
                  have jj3316_8 : (fZ H3311 0 8).toInt = (fZ H3298 0 8).toInt := by rw [eH3311, fZ_sF_ne (by decide)]
                  have ie3313 : v3275.toInt = (fZ H3311 0 13).toInt := by rw [← e3313]
                  exact g_ret ⟨rfl, hIH3311, hJH3311, (e3312.symm.trans ek0_2), (by omega)⟩
                · refine g_aload_n rfl ?_
                  refine g_iconst (by decide) (fun v3317 kv3317 => ?_)
                  refine g_invvv hIH3264 sm_0 rfl rfl rfl rfl (s_161 v3317 (by omega) H3264 hIH3264 hJH3264) (fun H3318 r3319 => ?_)
                  obtain ⟨hIH3318, hJH3318, w3320, w3321, w3322, w3323, m3324, p3325⟩ := r3319
                  have e3326 : k0_2 = fZ H3318 0 2 := e3272.trans w3320.symm
                  have e3327 : k0_8 = fZ H3318 0 8 := e3273.trans w3321.symm
                  have e3328 : v3252 = fZ H3318 0 10 := e3274.trans w3322.symm
                  have ie3327 : k0_8.toInt = (fZ H3318 0 8).toInt := by rw [← e3327]
                  have ie3328 : v3252.toInt = (fZ H3318 0 10).toInt := by rw [← e3328]
                  refine g_nop ?_
                  refine g_aload_n rfl ?_
                  refine g_invvv hIH3318 sm_0 rfl rfl rfl rfl (s_162 H3318 hIH3318 hJH3318) (fun H3329 r3330 => ?_)
                  obtain ⟨hIH3329, hJH3329, w3331, w3332, w3333, m3334, p3335, p3336⟩ := r3330
                  have e3337 : k0_2 = fZ H3329 0 2 := e3326.trans w3331.symm
                  have iw3332 : (fZ H3329 0 13).toInt = (fZ H3318 0 13).toInt := by rw [w3332]
                  refine g_aload_n rfl ?_
                  refine g_dup rfl ?_
                  refine g_gfi hIH3329 sm_0 rfl (fun v3338 ev3338 lv3338 uv3338 => ?_)
                  refine g_iconst (by decide) (fun v3339 kv3339 => ?_)
                  refine g_iadd' (fun v3340 ov3340 => ?_)
                  refine g_pfi hIH3329 sm_0 rfl (gz_any _) (fun H3341 eH3341 hIH3341 => ?_)
                  have hJH3341 : JN H3341 := JN_sF eH3341 hJH3329
                  have e3342 : k0_2 = fZ H3341 0 2 := by rw [eH3341, fZ_sF_ne (by decide)]; exact e3337
                  have jj3343_8 : (fZ H3341 0 8).toInt = (fZ H3329 0 8).toInt := by rw [eH3341, fZ_sF_ne (by decide)]
                  have jj3344_10 : (fZ H3341 0 10).toInt = (fZ H3329 0 10).toInt := by rw [eH3341, fZ_sF_ne (by decide)]
                  have jj3345_13 : (fZ H3341 0 13).toInt = (fZ H3329 0 13).toInt := by rw [eH3341, fZ_sF_ne (by decide)]
                  have jj3346_8 : (fZ H3341 0 8).toInt = (fZ H3329 0 8).toInt := by rw [eH3341, fZ_sF_ne (by decide)]
                  have jj3347_13 : (fZ H3341 0 13).toInt = (fZ H3329 0 13).toInt := by rw [eH3341, fZ_sF_ne (by decide)]
                  exact g_ret ⟨rfl, hIH3341, hJH3341, (e3342.symm.trans ek0_2), (by omega)⟩
            · exfalso; omega
          · exfalso; omega
        · exfalso; omega
      · exfalso; omega
    · refine g_aload_n rfl ?_
      refine g_gfi hI sm_0 rfl (fun v3348 ev3348 lv3348 uv3348 => ?_)
      refine g_goto ?_
      refine g_istore_n (l' := [(0, .ref 0), (1, .int a1), (2, .int v3348)]) rfl rfl ?_
      refine g_iload_n rfl ?_
      refine g_bipush (by decide) (fun v3349 kv3349 => ?_)
      refine g_if2_ne (fun c3350 => ?_) (fun c3350 => ?_)
      · refine g_iload_n rfl ?_
        refine g_bipush (by decide) (fun v3351 kv3351 => ?_)
        refine g_if2_ne (fun c3352 => ?_) (fun c3352 => ?_)
        · refine g_iload_n rfl ?_
          refine g_bipush (by decide) (fun v3353 kv3353 => ?_)
          refine g_if2_ne (fun c3354 => ?_) (fun c3354 => ?_)
          · refine g_iload_n rfl ?_
            refine g_bipush (by decide) (fun v3355 kv3355 => ?_)
            refine g_if2_ne (fun c3356 => ?_) (fun c3356 => ?_)
            · refine g_aload_n rfl ?_
              refine g_iconst (by decide) (fun v3357 kv3357 => ?_)
              refine g_invvv hI sm_0 rfl rfl rfl rfl (s_161 v3357 (by omega) H hI hJ) (fun H3358 r3359 => ?_)
              obtain ⟨hIH3358, hJH3358, w3360, w3361, w3362, w3363, m3364, p3365⟩ := r3359
              have e3366 : k0_2 = fZ H3358 0 2 := ek0_2.trans w3360.symm
              have e3367 : k0_8 = fZ H3358 0 8 := ek0_8.trans w3361.symm
              have e3368 : v3252 = fZ H3358 0 10 := ev3252.trans w3362.symm
              have ie3367 : k0_8.toInt = (fZ H3358 0 8).toInt := by rw [← e3367]
              have ie3368 : v3252.toInt = (fZ H3358 0 10).toInt := by rw [← e3368]
              refine g_nop ?_
              refine g_aload_n rfl ?_
              refine g_gfi hIH3358 sm_0 rfl (fun v3369 ev3369 lv3369 uv3369 => ?_)
              have iev3369 : v3369.toInt = (fZ H3358 0 13).toInt := by rw [← ev3369]
              refine g_if_ne (fun c3370 => ?_) (fun c3370 => ?_)
              · refine g_aload_n rfl ?_
                refine g_invvv hIH3358 sm_0 rfl rfl rfl rfl (s_162 H3358 hIH3358 hJH3358) (fun H3371 r3372 => ?_)
                obtain ⟨hIH3371, hJH3371, w3373, w3374, w3375, m3376, p3377, p3378⟩ := r3372
                have e3379 : k0_2 = fZ H3371 0 2 := e3366.trans w3373.symm
                have e3380 : v3369 = fZ H3371 0 13 := ev3369.trans w3374.symm
                have ie3380 : v3369.toInt = (fZ H3371 0 13).toInt := by rw [← e3380]
                refine g_aload_n rfl ?_
                refine g_dup rfl ?_
                refine g_gfi hIH3371 sm_0 rfl (fun v3381 ev3381 lv3381 uv3381 => ?_)
                refine g_iconst (by decide) (fun v3382 kv3382 => ?_)
                refine g_iadd' (fun v3383 ov3383 => ?_)
                refine g_pfi hIH3371 sm_0 rfl (gz_any _) (fun H3384 eH3384 hIH3384 => ?_)
                have hJH3384 : JN H3384 := JN_sF eH3384 hJH3371
                have e3385 : k0_2 = fZ H3384 0 2 := by rw [eH3384, fZ_sF_ne (by decide)]; exact e3379
                have e3386 : v3369 = fZ H3384 0 13 := by rw [eH3384, fZ_sF_ne (by decide)]; exact e3380
                have jj3387_8 : (fZ H3384 0 8).toInt = (fZ H3371 0 8).toInt := by rw [eH3384, fZ_sF_ne (by decide)]
                have jj3388_10 : (fZ H3384 0 10).toInt = (fZ H3371 0 10).toInt := by rw [eH3384, fZ_sF_ne (by decide)]
                have jj3389_8 : (fZ H3384 0 8).toInt = (fZ H3371 0 8).toInt := by rw [eH3384, fZ_sF_ne (by decide)]
                have ie3386 : v3369.toInt = (fZ H3384 0 13).toInt := by rw [← e3386]
                exact g_ret ⟨rfl, hIH3384, hJH3384, (e3385.symm.trans ek0_2), (by omega)⟩
              · refine g_aload_n rfl ?_
                refine g_gfk hIH3358 sm_0 rfl e3368 ?_
                refine g_iconst (by decide) (fun v3390 kv3390 => ?_)
                refine g_if2_eq (fun c3391 => ?_) (fun c3391 => ?_)
                · exfalso; omega
                · refine g_aload_n rfl ?_
                  refine g_iconst (by decide) (fun v3392 kv3392 => ?_)
                  refine g_invvv hIH3358 sm_0 rfl rfl rfl rfl (s_161 v3392 (by omega) H3358 hIH3358 hJH3358) (fun H3393 r3394 => ?_)
                  obtain ⟨hIH3393, hJH3393, w3395, w3396, w3397, w3398, m3399, p3400⟩ := r3394
                  have e3401 : k0_2 = fZ H3393 0 2 := e3366.trans w3395.symm
                  have e3402 : k0_8 = fZ H3393 0 8 := e3367.trans w3396.symm
                  have e3403 : v3252 = fZ H3393 0 10 := e3368.trans w3397.symm
                  have ie3402 : k0_8.toInt = (fZ H3393 0 8).toInt := by rw [← e3402]
                  have ie3403 : v3252.toInt = (fZ H3393 0 10).toInt := by rw [← e3403]
                  refine g_nop ?_
                  refine g_aload_n rfl ?_
                  refine g_invvv hIH3393 sm_0 rfl rfl rfl rfl (s_162 H3393 hIH3393 hJH3393) (fun H3404 r3405 => ?_)
                  obtain ⟨hIH3404, hJH3404, w3406, w3407, w3408, m3409, p3410, p3411⟩ := r3405
                  have e3412 : k0_2 = fZ H3404 0 2 := e3401.trans w3406.symm
                  have iw3407 : (fZ H3404 0 13).toInt = (fZ H3393 0 13).toInt := by rw [w3407]
                  refine g_aload_n rfl ?_
                  refine g_dup rfl ?_
                  refine g_gfi hIH3404 sm_0 rfl (fun v3413 ev3413 lv3413 uv3413 => ?_)
                  refine g_iconst (by decide) (fun v3414 kv3414 => ?_)
                  refine g_iadd' (fun v3415 ov3415 => ?_)
                  refine g_pfi hIH3404 sm_0 rfl (gz_any _) (fun H3416 eH3416 hIH3416 => ?_)
                  have hJH3416 : JN H3416 := JN_sF eH3416 hJH3404
                  have e3417 : k0_2 = fZ H3416 0 2 := by rw [eH3416, fZ_sF_ne (by decide)]; exact e3412
                  have jj3418_8 : (fZ H3416 0 8).toInt = (fZ H3404 0 8).toInt := by rw [eH3416, fZ_sF_ne (by decide)]
                  have jj3419_10 : (fZ H3416 0 10).toInt = (fZ H3404 0 10).toInt := by rw [eH3416, fZ_sF_ne (by decide)]
                  have jj3420_13 : (fZ H3416 0 13).toInt = (fZ H3404 0 13).toInt := by rw [eH3416, fZ_sF_ne (by decide)]
                  have jj3421_8 : (fZ H3416 0 8).toInt = (fZ H3404 0 8).toInt := by rw [eH3416, fZ_sF_ne (by decide)]
                  have jj3422_13 : (fZ H3416 0 13).toInt = (fZ H3404 0 13).toInt := by rw [eH3416, fZ_sF_ne (by decide)]
                  exact g_ret ⟨rfl, hIH3416, hJH3416, (e3417.symm.trans ek0_2), (by omega)⟩
            · refine g_iload_n rfl ?_
              refine g_if_ne (fun c3423 => ?_) (fun c3423 => ?_)
              · refine g_aload_n rfl ?_
                refine g_iconst (by decide) (fun v3424 kv3424 => ?_)
                refine g_invvv hI sm_0 rfl rfl rfl rfl (s_161 v3424 (by omega) H hI hJ) (fun H3425 r3426 => ?_)
                obtain ⟨hIH3425, hJH3425, w3427, w3428, w3429, w3430, m3431, p3432⟩ := r3426
                have e3433 : k0_2 = fZ H3425 0 2 := ek0_2.trans w3427.symm
                have e3434 : k0_8 = fZ H3425 0 8 := ek0_8.trans w3428.symm
                have e3435 : v3252 = fZ H3425 0 10 := ev3252.trans w3429.symm
                have ie3434 : k0_8.toInt = (fZ H3425 0 8).toInt := by rw [← e3434]
                have ie3435 : v3252.toInt = (fZ H3425 0 10).toInt := by rw [← e3435]
                refine g_nop ?_
                refine g_aload_n rfl ?_
                refine g_gfi hIH3425 sm_0 rfl (fun v3436 ev3436 lv3436 uv3436 => ?_)
                have iev3436 : v3436.toInt = (fZ H3425 0 13).toInt := by rw [← ev3436]
                refine g_if_ne (fun c3437 => ?_) (fun c3437 => ?_)
                · refine g_aload_n rfl ?_
                  refine g_invvv hIH3425 sm_0 rfl rfl rfl rfl (s_162 H3425 hIH3425 hJH3425) (fun H3438 r3439 => ?_)
                  obtain ⟨hIH3438, hJH3438, w3440, w3441, w3442, m3443, p3444, p3445⟩ := r3439
                  have e3446 : k0_2 = fZ H3438 0 2 := e3433.trans w3440.symm
                  have e3447 : v3436 = fZ H3438 0 13 := ev3436.trans w3441.symm
                  have ie3447 : v3436.toInt = (fZ H3438 0 13).toInt := by rw [← e3447]
                  refine g_aload_n rfl ?_
                  refine g_dup rfl ?_
                  refine g_gfi hIH3438 sm_0 rfl (fun v3448 ev3448 lv3448 uv3448 => ?_)
                  refine g_iconst (by decide) (fun v3449 kv3449 => ?_)
                  refine g_iadd' (fun v3450 ov3450 => ?_)
                  refine g_pfi hIH3438 sm_0 rfl (gz_any _) (fun H3451 eH3451 hIH3451 => ?_)
                  have hJH3451 : JN H3451 := JN_sF eH3451 hJH3438
                  have e3452 : k0_2 = fZ H3451 0 2 := by rw [eH3451, fZ_sF_ne (by decide)]; exact e3446
                  have e3453 : v3436 = fZ H3451 0 13 := by rw [eH3451, fZ_sF_ne (by decide)]; exact e3447
                  have jj3454_8 : (fZ H3451 0 8).toInt = (fZ H3438 0 8).toInt := by rw [eH3451, fZ_sF_ne (by decide)]
                  have jj3455_10 : (fZ H3451 0 10).toInt = (fZ H3438 0 10).toInt := by rw [eH3451, fZ_sF_ne (by decide)]
                  have jj3456_8 : (fZ H3451 0 8).toInt = (fZ H3438 0 8).toInt := by rw [eH3451, fZ_sF_ne (by decide)]
                  have ie3453 : v3436.toInt = (fZ H3451 0 13).toInt := by rw [← e3453]
                  exact g_ret ⟨rfl, hIH3451, hJH3451, (e3452.symm.trans ek0_2), (by omega)⟩
                · refine g_aload_n rfl ?_
                  refine g_gfk hIH3425 sm_0 rfl e3435 ?_
                  refine g_iconst (by decide) (fun v3457 kv3457 => ?_)
                  refine g_if2_eq (fun c3458 => ?_) (fun c3458 => ?_)
                  · exfalso; omega
                  · refine g_aload_n rfl ?_
                    refine g_iconst (by decide) (fun v3459 kv3459 => ?_)
                    refine g_invvv hIH3425 sm_0 rfl rfl rfl rfl (s_161 v3459 (by omega) H3425 hIH3425 hJH3425) (fun H3460 r3461 => ?_)
                    obtain ⟨hIH3460, hJH3460, w3462, w3463, w3464, w3465, m3466, p3467⟩ := r3461
                    have e3468 : k0_2 = fZ H3460 0 2 := e3433.trans w3462.symm
                    have e3469 : k0_8 = fZ H3460 0 8 := e3434.trans w3463.symm
                    have e3470 : v3252 = fZ H3460 0 10 := e3435.trans w3464.symm
                    have ie3469 : k0_8.toInt = (fZ H3460 0 8).toInt := by rw [← e3469]
                    have ie3470 : v3252.toInt = (fZ H3460 0 10).toInt := by rw [← e3470]
                    refine g_nop ?_
                    refine g_aload_n rfl ?_
                    refine g_invvv hIH3460 sm_0 rfl rfl rfl rfl (s_162 H3460 hIH3460 hJH3460) (fun H3471 r3472 => ?_)
                    obtain ⟨hIH3471, hJH3471, w3473, w3474, w3475, m3476, p3477, p3478⟩ := r3472
                    have e3479 : k0_2 = fZ H3471 0 2 := e3468.trans w3473.symm
                    have iw3474 : (fZ H3471 0 13).toInt = (fZ H3460 0 13).toInt := by rw [w3474]
                    refine g_aload_n rfl ?_
                    refine g_dup rfl ?_
                    refine g_gfi hIH3471 sm_0 rfl (fun v3480 ev3480 lv3480 uv3480 => ?_)
                    refine g_iconst (by decide) (fun v3481 kv3481 => ?_)
                    refine g_iadd' (fun v3482 ov3482 => ?_)
                    refine g_pfi hIH3471 sm_0 rfl (gz_any _) (fun H3483 eH3483 hIH3483 => ?_)
                    have hJH3483 : JN H3483 := JN_sF eH3483 hJH3471
                    have e3484 : k0_2 = fZ H3483 0 2 := by rw [eH3483, fZ_sF_ne (by decide)]; exact e3479
                    have jj3485_8 : (fZ H3483 0 8).toInt = (fZ H3471 0 8).toInt := by rw [eH3483, fZ_sF_ne (by decide)]
                    have jj3486_10 : (fZ H3483 0 10).toInt = (fZ H3471 0 10).toInt := by rw [eH3483, fZ_sF_ne (by decide)]
                    have jj3487_13 : (fZ H3483 0 13).toInt = (fZ H3471 0 13).toInt := by rw [eH3483, fZ_sF_ne (by decide)]
                    have jj3488_8 : (fZ H3483 0 8).toInt = (fZ H3471 0 8).toInt := by rw [eH3483, fZ_sF_ne (by decide)]
                    have jj3489_13 : (fZ H3483 0 13).toInt = (fZ H3471 0 13).toInt := by rw [eH3483, fZ_sF_ne (by decide)]
                    exact g_ret ⟨rfl, hIH3483, hJH3483, (e3484.symm.trans ek0_2), (by omega)⟩
              · refine g_aload_n rfl ?_
                refine g_invvv hI sm_0 rfl rfl rfl rfl (s_168 H hI hJ) (fun H3490 r3491 => ?_)
                obtain ⟨hIH3490, hJH3490, w3492, w3493, p3494⟩ := r3491
                have e3495 : k0_2 = fZ H3490 0 2 := ek0_2.trans w3492.symm
                refine g_goto ?_
                refine g_aload_n rfl ?_
                refine g_gfi hIH3490 sm_0 rfl (fun v3496 ev3496 lv3496 uv3496 => ?_)
                have iev3496 : v3496.toInt = (fZ H3490 0 13).toInt := by rw [← ev3496]
                refine g_if_ne (fun c3497 => ?_) (fun c3497 => ?_)
                · refine g_aload_n rfl ?_
                  refine g_invvv hIH3490 sm_0 rfl rfl rfl rfl (s_162 H3490 hIH3490 hJH3490) (fun H3498 r3499 => ?_)
                  obtain ⟨hIH3498, hJH3498, w3500, w3501, w3502, m3503, p3504, p3505⟩ := r3499
                  have e3506 : k0_2 = fZ H3498 0 2 := e3495.trans w3500.symm
                  have e3507 : v3496 = fZ H3498 0 13 := ev3496.trans w3501.symm
                  have ie3507 : v3496.toInt = (fZ H3498 0 13).toInt := by rw [← e3507]
                  refine g_aload_n rfl ?_
                  refine g_dup rfl ?_
                  refine g_gfi hIH3498 sm_0 rfl (fun v3508 ev3508 lv3508 uv3508 => ?_)
                  refine g_iconst (by decide) (fun v3509 kv3509 => ?_)
                  refine g_iadd' (fun v3510 ov3510 => ?_)
                  refine g_pfi hIH3498 sm_0 rfl (gz_any _) (fun H3511 eH3511 hIH3511 => ?_)
                  have hJH3511 : JN H3511 := JN_sF eH3511 hJH3498
                  have e3512 : k0_2 = fZ H3511 0 2 := by rw [eH3511, fZ_sF_ne (by decide)]; exact e3506
                  have e3513 : v3496 = fZ H3511 0 13 := by rw [eH3511, fZ_sF_ne (by decide)]; exact e3507
                  have jj3514_8 : (fZ H3511 0 8).toInt = (fZ H3498 0 8).toInt := by rw [eH3511, fZ_sF_ne (by decide)]
                  have jj3515_10 : (fZ H3511 0 10).toInt = (fZ H3498 0 10).toInt := by rw [eH3511, fZ_sF_ne (by decide)]
                  have jj3516_8 : (fZ H3511 0 8).toInt = (fZ H3498 0 8).toInt := by rw [eH3511, fZ_sF_ne (by decide)]
                  have ie3513 : v3496.toInt = (fZ H3511 0 13).toInt := by rw [← e3513]
                  exact g_ret ⟨rfl, hIH3511, hJH3511, (e3512.symm.trans ek0_2), (by omega)⟩
                · refine g_aload_n rfl ?_
                  refine g_gfi hIH3490 sm_0 rfl (fun v3517 ev3517 lv3517 uv3517 => ?_)
                  have iev3517 : v3517.toInt = (fZ H3490 0 10).toInt := by rw [← ev3517]
                  refine g_iconst (by decide) (fun v3518 kv3518 => ?_)
                  refine g_if2_eq (fun c3519 => ?_) (fun c3519 => ?_)
                  · refine g_aload_n rfl ?_
                    refine g_invvv hIH3490 sm_0 rfl rfl rfl rfl (s_162 H3490 hIH3490 hJH3490) (fun H3520 r3521 => ?_)
                    obtain ⟨hIH3520, hJH3520, w3522, w3523, w3524, m3525, p3526, p3527⟩ := r3521
                    have e3528 : k0_2 = fZ H3520 0 2 := e3495.trans w3522.symm
                    have e3529 : v3496 = fZ H3520 0 13 := ev3496.trans w3523.symm
                    have ie3529 : v3496.toInt = (fZ H3520 0 13).toInt := by rw [← e3529]
                    refine g_aload_n rfl ?_
                    refine g_dup rfl ?_
                    refine g_gfi hIH3520 sm_0 rfl (fun v3530 ev3530 lv3530 uv3530 => ?_)
                    refine g_iconst (by decide) (fun v3531 kv3531 => ?_)
                    refine g_iadd' (fun v3532 ov3532 => ?_)
                    refine g_pfi hIH3520 sm_0 rfl (gz_any _) (fun H3533 eH3533 hIH3533 => ?_)
                    have hJH3533 : JN H3533 := JN_sF eH3533 hJH3520
                    have e3534 : k0_2 = fZ H3533 0 2 := by rw [eH3533, fZ_sF_ne (by decide)]; exact e3528
                    have e3535 : v3496 = fZ H3533 0 13 := by rw [eH3533, fZ_sF_ne (by decide)]; exact e3529
                    have jj3536_8 : (fZ H3533 0 8).toInt = (fZ H3520 0 8).toInt := by rw [eH3533, fZ_sF_ne (by decide)]
                    have jj3537_10 : (fZ H3533 0 10).toInt = (fZ H3520 0 10).toInt := by rw [eH3533, fZ_sF_ne (by decide)]
                    have jj3538_8 : (fZ H3533 0 8).toInt = (fZ H3520 0 8).toInt := by rw [eH3533, fZ_sF_ne (by decide)]
                    have ie3535 : v3496.toInt = (fZ H3533 0 13).toInt := by rw [← e3535]
                    exact g_ret ⟨rfl, hIH3533, hJH3533, (e3534.symm.trans ek0_2), (by omega)⟩
                  · refine g_aload_n rfl ?_
                    refine g_iconst (by decide) (fun v3539 kv3539 => ?_)
                    refine g_invvv hIH3490 sm_0 rfl rfl rfl rfl (s_161 v3539 (by omega) H3490 hIH3490 hJH3490) (fun H3540 r3541 => ?_)
                    obtain ⟨hIH3540, hJH3540, w3542, w3543, w3544, w3545, m3546, p3547⟩ := r3541
                    have e3548 : k0_2 = fZ H3540 0 2 := e3495.trans w3542.symm
                    have e3549 : v3517 = fZ H3540 0 10 := ev3517.trans w3544.symm
                    have iw3543 : (fZ H3540 0 8).toInt = (fZ H3490 0 8).toInt := by rw [w3543]
                    have ie3549 : v3517.toInt = (fZ H3540 0 10).toInt := by rw [← e3549]
                    refine g_nop ?_
                    refine g_aload_n rfl ?_
                    refine g_invvv hIH3540 sm_0 rfl rfl rfl rfl (s_162 H3540 hIH3540 hJH3540) (fun H3550 r3551 => ?_)
                    obtain ⟨hIH3550, hJH3550, w3552, w3553, w3554, m3555, p3556, p3557⟩ := r3551
                    have e3558 : k0_2 = fZ H3550 0 2 := e3548.trans w3552.symm
                    have iw3553 : (fZ H3550 0 13).toInt = (fZ H3540 0 13).toInt := by rw [w3553]
                    refine g_aload_n rfl ?_
                    refine g_dup rfl ?_
                    refine g_gfi hIH3550 sm_0 rfl (fun v3559 ev3559 lv3559 uv3559 => ?_)
                    refine g_iconst (by decide) (fun v3560 kv3560 => ?_)
                    refine g_iadd' (fun v3561 ov3561 => ?_)
                    refine g_pfi hIH3550 sm_0 rfl (gz_any _) (fun H3562 eH3562 hIH3562 => ?_)
                    have hJH3562 : JN H3562 := JN_sF eH3562 hJH3550
                    have e3563 : k0_2 = fZ H3562 0 2 := by rw [eH3562, fZ_sF_ne (by decide)]; exact e3558
                    have jj3564_8 : (fZ H3562 0 8).toInt = (fZ H3550 0 8).toInt := by rw [eH3562, fZ_sF_ne (by decide)]
                    have jj3565_10 : (fZ H3562 0 10).toInt = (fZ H3550 0 10).toInt := by rw [eH3562, fZ_sF_ne (by decide)]
                    have jj3566_13 : (fZ H3562 0 13).toInt = (fZ H3550 0 13).toInt := by rw [eH3562, fZ_sF_ne (by decide)]
                    have jj3567_8 : (fZ H3562 0 8).toInt = (fZ H3550 0 8).toInt := by rw [eH3562, fZ_sF_ne (by decide)]
                    have jj3568_13 : (fZ H3562 0 13).toInt = (fZ H3550 0 13).toInt := by rw [eH3562, fZ_sF_ne (by decide)]
                    exact g_ret ⟨rfl, hIH3562, hJH3562, (e3563.symm.trans ek0_2), (by omega)⟩
          · refine g_iload_n rfl ?_
            refine g_if_ne (fun c3569 => ?_) (fun c3569 => ?_)
            · refine g_iload_n rfl ?_
              refine g_bipush (by decide) (fun v3570 kv3570 => ?_)
              refine g_if2_ne (fun c3571 => ?_) (fun c3571 => ?_)
              · refine g_aload_n rfl ?_
                refine g_iconst (by decide) (fun v3572 kv3572 => ?_)
                refine g_invvv hI sm_0 rfl rfl rfl rfl (s_161 v3572 (by omega) H hI hJ) (fun H3573 r3574 => ?_)
                obtain ⟨hIH3573, hJH3573, w3575, w3576, w3577, w3578, m3579, p3580⟩ := r3574
                have e3581 : k0_2 = fZ H3573 0 2 := ek0_2.trans w3575.symm
                have e3582 : k0_8 = fZ H3573 0 8 := ek0_8.trans w3576.symm
                have e3583 : v3252 = fZ H3573 0 10 := ev3252.trans w3577.symm
                have ie3582 : k0_8.toInt = (fZ H3573 0 8).toInt := by rw [← e3582]
                have ie3583 : v3252.toInt = (fZ H3573 0 10).toInt := by rw [← e3583]
                refine g_nop ?_
                refine g_aload_n rfl ?_
                refine g_gfi hIH3573 sm_0 rfl (fun v3584 ev3584 lv3584 uv3584 => ?_)
                have iev3584 : v3584.toInt = (fZ H3573 0 13).toInt := by rw [← ev3584]
                refine g_if_ne (fun c3585 => ?_) (fun c3585 => ?_)
                · refine g_aload_n rfl ?_
                  refine g_invvv hIH3573 sm_0 rfl rfl rfl rfl (s_162 H3573 hIH3573 hJH3573) (fun H3586 r3587 => ?_)
                  obtain ⟨hIH3586, hJH3586, w3588, w3589, w3590, m3591, p3592, p3593⟩ := r3587
                  have e3594 : k0_2 = fZ H3586 0 2 := e3581.trans w3588.symm
                  have e3595 : v3584 = fZ H3586 0 13 := ev3584.trans w3589.symm
                  have ie3595 : v3584.toInt = (fZ H3586 0 13).toInt := by rw [← e3595]
                  refine g_aload_n rfl ?_
                  refine g_dup rfl ?_
                  refine g_gfi hIH3586 sm_0 rfl (fun v3596 ev3596 lv3596 uv3596 => ?_)
                  refine g_iconst (by decide) (fun v3597 kv3597 => ?_)
                  refine g_iadd' (fun v3598 ov3598 => ?_)
                  refine g_pfi hIH3586 sm_0 rfl (gz_any _) (fun H3599 eH3599 hIH3599 => ?_)
                  have hJH3599 : JN H3599 := JN_sF eH3599 hJH3586
                  have e3600 : k0_2 = fZ H3599 0 2 := by rw [eH3599, fZ_sF_ne (by decide)]; exact e3594
                  have e3601 : v3584 = fZ H3599 0 13 := by rw [eH3599, fZ_sF_ne (by decide)]; exact e3595
                  have jj3602_8 : (fZ H3599 0 8).toInt = (fZ H3586 0 8).toInt := by rw [eH3599, fZ_sF_ne (by decide)]
                  have jj3603_10 : (fZ H3599 0 10).toInt = (fZ H3586 0 10).toInt := by rw [eH3599, fZ_sF_ne (by decide)]
                  have jj3604_8 : (fZ H3599 0 8).toInt = (fZ H3586 0 8).toInt := by rw [eH3599, fZ_sF_ne (by decide)]
                  have ie3601 : v3584.toInt = (fZ H3599 0 13).toInt := by rw [← e3601]
                  exact g_ret ⟨rfl, hIH3599, hJH3599, (e3600.symm.trans ek0_2), (by omega)⟩
                · refine g_aload_n rfl ?_
                  refine g_gfk hIH3573 sm_0 rfl e3583 ?_
                  refine g_iconst (by decide) (fun v3605 kv3605 => ?_)
                  refine g_if2_eq (fun c3606 => ?_) (fun c3606 => ?_)
                  · exfalso; omega
                  · refine g_aload_n rfl ?_
                    refine g_iconst (by decide) (fun v3607 kv3607 => ?_)
                    refine g_invvv hIH3573 sm_0 rfl rfl rfl rfl (s_161 v3607 (by omega) H3573 hIH3573 hJH3573) (fun H3608 r3609 => ?_)
                    obtain ⟨hIH3608, hJH3608, w3610, w3611, w3612, w3613, m3614, p3615⟩ := r3609
                    have e3616 : k0_2 = fZ H3608 0 2 := e3581.trans w3610.symm
                    have e3617 : k0_8 = fZ H3608 0 8 := e3582.trans w3611.symm
                    have e3618 : v3252 = fZ H3608 0 10 := e3583.trans w3612.symm
                    have ie3617 : k0_8.toInt = (fZ H3608 0 8).toInt := by rw [← e3617]
                    have ie3618 : v3252.toInt = (fZ H3608 0 10).toInt := by rw [← e3618]
                    refine g_nop ?_
                    refine g_aload_n rfl ?_
                    refine g_invvv hIH3608 sm_0 rfl rfl rfl rfl (s_162 H3608 hIH3608 hJH3608) (fun H3619 r3620 => ?_)
                    obtain ⟨hIH3619, hJH3619, w3621, w3622, w3623, m3624, p3625, p3626⟩ := r3620
                    have e3627 : k0_2 = fZ H3619 0 2 := e3616.trans w3621.symm
                    have iw3622 : (fZ H3619 0 13).toInt = (fZ H3608 0 13).toInt := by rw [w3622]
                    refine g_aload_n rfl ?_
                    refine g_dup rfl ?_
                    refine g_gfi hIH3619 sm_0 rfl (fun v3628 ev3628 lv3628 uv3628 => ?_)
                    refine g_iconst (by decide) (fun v3629 kv3629 => ?_)
                    refine g_iadd' (fun v3630 ov3630 => ?_)
                    refine g_pfi hIH3619 sm_0 rfl (gz_any _) (fun H3631 eH3631 hIH3631 => ?_)
                    have hJH3631 : JN H3631 := JN_sF eH3631 hJH3619
                    have e3632 : k0_2 = fZ H3631 0 2 := by rw [eH3631, fZ_sF_ne (by decide)]; exact e3627
                    have jj3633_8 : (fZ H3631 0 8).toInt = (fZ H3619 0 8).toInt := by rw [eH3631, fZ_sF_ne (by decide)]
                    have jj3634_10 : (fZ H3631 0 10).toInt = (fZ H3619 0 10).toInt := by rw [eH3631, fZ_sF_ne (by decide)]
                    have jj3635_13 : (fZ H3631 0 13).toInt = (fZ H3619 0 13).toInt := by rw [eH3631, fZ_sF_ne (by decide)]
                    have jj3636_8 : (fZ H3631 0 8).toInt = (fZ H3619 0 8).toInt := by rw [eH3631, fZ_sF_ne (by decide)]
                    have jj3637_13 : (fZ H3631 0 13).toInt = (fZ H3619 0 13).toInt := by rw [eH3631, fZ_sF_ne (by decide)]
                    exact g_ret ⟨rfl, hIH3631, hJH3631, (e3632.symm.trans ek0_2), (by omega)⟩
              · exfalso; omega
            · refine g_aload_n rfl ?_
              refine g_invvv hI sm_0 rfl rfl rfl rfl (s_167 H hI hJ) (fun H3638 r3639 => ?_)
              obtain ⟨hIH3638, hJH3638, w3640, w3641, p3642⟩ := r3639
              have e3643 : k0_2 = fZ H3638 0 2 := ek0_2.trans w3640.symm
              refine g_goto ?_
              refine g_aload_n rfl ?_
              refine g_gfi hIH3638 sm_0 rfl (fun v3644 ev3644 lv3644 uv3644 => ?_)
              have iev3644 : v3644.toInt = (fZ H3638 0 13).toInt := by rw [← ev3644]
              refine g_if_ne (fun c3645 => ?_) (fun c3645 => ?_)
              · refine g_aload_n rfl ?_
                refine g_invvv hIH3638 sm_0 rfl rfl rfl rfl (s_162 H3638 hIH3638 hJH3638) (fun H3646 r3647 => ?_)
                obtain ⟨hIH3646, hJH3646, w3648, w3649, w3650, m3651, p3652, p3653⟩ := r3647
                have e3654 : k0_2 = fZ H3646 0 2 := e3643.trans w3648.symm
                have e3655 : v3644 = fZ H3646 0 13 := ev3644.trans w3649.symm
                have ie3655 : v3644.toInt = (fZ H3646 0 13).toInt := by rw [← e3655]
                refine g_aload_n rfl ?_
                refine g_dup rfl ?_
                refine g_gfi hIH3646 sm_0 rfl (fun v3656 ev3656 lv3656 uv3656 => ?_)
                refine g_iconst (by decide) (fun v3657 kv3657 => ?_)
                refine g_iadd' (fun v3658 ov3658 => ?_)
                refine g_pfi hIH3646 sm_0 rfl (gz_any _) (fun H3659 eH3659 hIH3659 => ?_)
                have hJH3659 : JN H3659 := JN_sF eH3659 hJH3646
                have e3660 : k0_2 = fZ H3659 0 2 := by rw [eH3659, fZ_sF_ne (by decide)]; exact e3654
                have e3661 : v3644 = fZ H3659 0 13 := by rw [eH3659, fZ_sF_ne (by decide)]; exact e3655
                have jj3662_8 : (fZ H3659 0 8).toInt = (fZ H3646 0 8).toInt := by rw [eH3659, fZ_sF_ne (by decide)]
                have jj3663_10 : (fZ H3659 0 10).toInt = (fZ H3646 0 10).toInt := by rw [eH3659, fZ_sF_ne (by decide)]
                have jj3664_8 : (fZ H3659 0 8).toInt = (fZ H3646 0 8).toInt := by rw [eH3659, fZ_sF_ne (by decide)]
                have ie3661 : v3644.toInt = (fZ H3659 0 13).toInt := by rw [← e3661]
                exact g_ret ⟨rfl, hIH3659, hJH3659, (e3660.symm.trans ek0_2), (by omega)⟩
              · refine g_aload_n rfl ?_
                refine g_gfi hIH3638 sm_0 rfl (fun v3665 ev3665 lv3665 uv3665 => ?_)
                have iev3665 : v3665.toInt = (fZ H3638 0 10).toInt := by rw [← ev3665]
                refine g_iconst (by decide) (fun v3666 kv3666 => ?_)
                refine g_if2_eq (fun c3667 => ?_) (fun c3667 => ?_)
                · refine g_aload_n rfl ?_
                  refine g_invvv hIH3638 sm_0 rfl rfl rfl rfl (s_162 H3638 hIH3638 hJH3638) (fun H3668 r3669 => ?_)
                  obtain ⟨hIH3668, hJH3668, w3670, w3671, w3672, m3673, p3674, p3675⟩ := r3669
                  have e3676 : k0_2 = fZ H3668 0 2 := e3643.trans w3670.symm
                  have e3677 : v3644 = fZ H3668 0 13 := ev3644.trans w3671.symm
                  have ie3677 : v3644.toInt = (fZ H3668 0 13).toInt := by rw [← e3677]
                  refine g_aload_n rfl ?_
                  refine g_dup rfl ?_
                  refine g_gfi hIH3668 sm_0 rfl (fun v3678 ev3678 lv3678 uv3678 => ?_)
                  refine g_iconst (by decide) (fun v3679 kv3679 => ?_)
                  refine g_iadd' (fun v3680 ov3680 => ?_)
                  refine g_pfi hIH3668 sm_0 rfl (gz_any _) (fun H3681 eH3681 hIH3681 => ?_)
                  have hJH3681 : JN H3681 := JN_sF eH3681 hJH3668
                  have e3682 : k0_2 = fZ H3681 0 2 := by rw [eH3681, fZ_sF_ne (by decide)]; exact e3676
                  have e3683 : v3644 = fZ H3681 0 13 := by rw [eH3681, fZ_sF_ne (by decide)]; exact e3677
                  have jj3684_8 : (fZ H3681 0 8).toInt = (fZ H3668 0 8).toInt := by rw [eH3681, fZ_sF_ne (by decide)]
                  have jj3685_10 : (fZ H3681 0 10).toInt = (fZ H3668 0 10).toInt := by rw [eH3681, fZ_sF_ne (by decide)]
                  have jj3686_8 : (fZ H3681 0 8).toInt = (fZ H3668 0 8).toInt := by rw [eH3681, fZ_sF_ne (by decide)]
                  have ie3683 : v3644.toInt = (fZ H3681 0 13).toInt := by rw [← e3683]
                  exact g_ret ⟨rfl, hIH3681, hJH3681, (e3682.symm.trans ek0_2), (by omega)⟩
                · refine g_aload_n rfl ?_
                  refine g_iconst (by decide) (fun v3687 kv3687 => ?_)
                  refine g_invvv hIH3638 sm_0 rfl rfl rfl rfl (s_161 v3687 (by omega) H3638 hIH3638 hJH3638) (fun H3688 r3689 => ?_)
                  obtain ⟨hIH3688, hJH3688, w3690, w3691, w3692, w3693, m3694, p3695⟩ := r3689
                  have e3696 : k0_2 = fZ H3688 0 2 := e3643.trans w3690.symm
                  have e3697 : v3665 = fZ H3688 0 10 := ev3665.trans w3692.symm
                  have iw3691 : (fZ H3688 0 8).toInt = (fZ H3638 0 8).toInt := by rw [w3691]
                  have ie3697 : v3665.toInt = (fZ H3688 0 10).toInt := by rw [← e3697]
                  refine g_nop ?_
                  refine g_aload_n rfl ?_
                  refine g_invvv hIH3688 sm_0 rfl rfl rfl rfl (s_162 H3688 hIH3688 hJH3688) (fun H3698 r3699 => ?_)
                  obtain ⟨hIH3698, hJH3698, w3700, w3701, w3702, m3703, p3704, p3705⟩ := r3699
                  have e3706 : k0_2 = fZ H3698 0 2 := e3696.trans w3700.symm
                  have iw3701 : (fZ H3698 0 13).toInt = (fZ H3688 0 13).toInt := by rw [w3701]
                  refine g_aload_n rfl ?_
                  refine g_dup rfl ?_
                  refine g_gfi hIH3698 sm_0 rfl (fun v3707 ev3707 lv3707 uv3707 => ?_)
                  refine g_iconst (by decide) (fun v3708 kv3708 => ?_)
                  refine g_iadd' (fun v3709 ov3709 => ?_)
                  refine g_pfi hIH3698 sm_0 rfl (gz_any _) (fun H3710 eH3710 hIH3710 => ?_)
                  have hJH3710 : JN H3710 := JN_sF eH3710 hJH3698
                  have e3711 : k0_2 = fZ H3710 0 2 := by rw [eH3710, fZ_sF_ne (by decide)]; exact e3706
                  have jj3712_8 : (fZ H3710 0 8).toInt = (fZ H3698 0 8).toInt := by rw [eH3710, fZ_sF_ne (by decide)]
                  have jj3713_10 : (fZ H3710 0 10).toInt = (fZ H3698 0 10).toInt := by rw [eH3710, fZ_sF_ne (by decide)]
                  have jj3714_13 : (fZ H3710 0 13).toInt = (fZ H3698 0 13).toInt := by rw [eH3710, fZ_sF_ne (by decide)]
                  have jj3715_8 : (fZ H3710 0 8).toInt = (fZ H3698 0 8).toInt := by rw [eH3710, fZ_sF_ne (by decide)]
                  have jj3716_13 : (fZ H3710 0 13).toInt = (fZ H3698 0 13).toInt := by rw [eH3710, fZ_sF_ne (by decide)]
                  exact g_ret ⟨rfl, hIH3710, hJH3710, (e3711.symm.trans ek0_2), (by omega)⟩
        · refine g_iload_n rfl ?_
          refine g_if_ne (fun c3717 => ?_) (fun c3717 => ?_)
          · refine g_iload_n rfl ?_
            refine g_bipush (by decide) (fun v3718 kv3718 => ?_)
            refine g_if2_ne (fun c3719 => ?_) (fun c3719 => ?_)
            · refine g_iload_n rfl ?_
              refine g_bipush (by decide) (fun v3720 kv3720 => ?_)
              refine g_if2_ne (fun c3721 => ?_) (fun c3721 => ?_)
              · refine g_aload_n rfl ?_
                refine g_iconst (by decide) (fun v3722 kv3722 => ?_)
                refine g_invvv hI sm_0 rfl rfl rfl rfl (s_161 v3722 (by omega) H hI hJ) (fun H3723 r3724 => ?_)
                obtain ⟨hIH3723, hJH3723, w3725, w3726, w3727, w3728, m3729, p3730⟩ := r3724
                have e3731 : k0_2 = fZ H3723 0 2 := ek0_2.trans w3725.symm
                have e3732 : k0_8 = fZ H3723 0 8 := ek0_8.trans w3726.symm
                have e3733 : v3252 = fZ H3723 0 10 := ev3252.trans w3727.symm
                have ie3732 : k0_8.toInt = (fZ H3723 0 8).toInt := by rw [← e3732]
                have ie3733 : v3252.toInt = (fZ H3723 0 10).toInt := by rw [← e3733]
                refine g_nop ?_
                refine g_aload_n rfl ?_
                refine g_gfi hIH3723 sm_0 rfl (fun v3734 ev3734 lv3734 uv3734 => ?_)
                have iev3734 : v3734.toInt = (fZ H3723 0 13).toInt := by rw [← ev3734]
                refine g_if_ne (fun c3735 => ?_) (fun c3735 => ?_)
                · refine g_aload_n rfl ?_
                  refine g_invvv hIH3723 sm_0 rfl rfl rfl rfl (s_162 H3723 hIH3723 hJH3723) (fun H3736 r3737 => ?_)
                  obtain ⟨hIH3736, hJH3736, w3738, w3739, w3740, m3741, p3742, p3743⟩ := r3737
                  have e3744 : k0_2 = fZ H3736 0 2 := e3731.trans w3738.symm
                  have e3745 : v3734 = fZ H3736 0 13 := ev3734.trans w3739.symm
                  have ie3745 : v3734.toInt = (fZ H3736 0 13).toInt := by rw [← e3745]
                  refine g_aload_n rfl ?_
                  refine g_dup rfl ?_
                  refine g_gfi hIH3736 sm_0 rfl (fun v3746 ev3746 lv3746 uv3746 => ?_)
                  refine g_iconst (by decide) (fun v3747 kv3747 => ?_)
                  refine g_iadd' (fun v3748 ov3748 => ?_)
                  refine g_pfi hIH3736 sm_0 rfl (gz_any _) (fun H3749 eH3749 hIH3749 => ?_)
                  have hJH3749 : JN H3749 := JN_sF eH3749 hJH3736
                  have e3750 : k0_2 = fZ H3749 0 2 := by rw [eH3749, fZ_sF_ne (by decide)]; exact e3744
                  have e3751 : v3734 = fZ H3749 0 13 := by rw [eH3749, fZ_sF_ne (by decide)]; exact e3745
                  have jj3752_8 : (fZ H3749 0 8).toInt = (fZ H3736 0 8).toInt := by rw [eH3749, fZ_sF_ne (by decide)]
                  have jj3753_10 : (fZ H3749 0 10).toInt = (fZ H3736 0 10).toInt := by rw [eH3749, fZ_sF_ne (by decide)]
                  have jj3754_8 : (fZ H3749 0 8).toInt = (fZ H3736 0 8).toInt := by rw [eH3749, fZ_sF_ne (by decide)]
                  have ie3751 : v3734.toInt = (fZ H3749 0 13).toInt := by rw [← e3751]
                  exact g_ret ⟨rfl, hIH3749, hJH3749, (e3750.symm.trans ek0_2), (by omega)⟩
                · refine g_aload_n rfl ?_
                  refine g_gfk hIH3723 sm_0 rfl e3733 ?_
                  refine g_iconst (by decide) (fun v3755 kv3755 => ?_)
                  refine g_if2_eq (fun c3756 => ?_) (fun c3756 => ?_)
                  · exfalso; omega
                  · refine g_aload_n rfl ?_
                    refine g_iconst (by decide) (fun v3757 kv3757 => ?_)
                    refine g_invvv hIH3723 sm_0 rfl rfl rfl rfl (s_161 v3757 (by omega) H3723 hIH3723 hJH3723) (fun H3758 r3759 => ?_)
                    obtain ⟨hIH3758, hJH3758, w3760, w3761, w3762, w3763, m3764, p3765⟩ := r3759
                    have e3766 : k0_2 = fZ H3758 0 2 := e3731.trans w3760.symm
                    have e3767 : k0_8 = fZ H3758 0 8 := e3732.trans w3761.symm
                    have e3768 : v3252 = fZ H3758 0 10 := e3733.trans w3762.symm
                    have ie3767 : k0_8.toInt = (fZ H3758 0 8).toInt := by rw [← e3767]
                    have ie3768 : v3252.toInt = (fZ H3758 0 10).toInt := by rw [← e3768]
                    refine g_nop ?_
                    refine g_aload_n rfl ?_
                    refine g_invvv hIH3758 sm_0 rfl rfl rfl rfl (s_162 H3758 hIH3758 hJH3758) (fun H3769 r3770 => ?_)
                    obtain ⟨hIH3769, hJH3769, w3771, w3772, w3773, m3774, p3775, p3776⟩ := r3770
                    have e3777 : k0_2 = fZ H3769 0 2 := e3766.trans w3771.symm
                    have iw3772 : (fZ H3769 0 13).toInt = (fZ H3758 0 13).toInt := by rw [w3772]
                    refine g_aload_n rfl ?_
                    refine g_dup rfl ?_
                    refine g_gfi hIH3769 sm_0 rfl (fun v3778 ev3778 lv3778 uv3778 => ?_)
                    refine g_iconst (by decide) (fun v3779 kv3779 => ?_)
                    refine g_iadd' (fun v3780 ov3780 => ?_)
                    refine g_pfi hIH3769 sm_0 rfl (gz_any _) (fun H3781 eH3781 hIH3781 => ?_)
                    have hJH3781 : JN H3781 := JN_sF eH3781 hJH3769
                    have e3782 : k0_2 = fZ H3781 0 2 := by rw [eH3781, fZ_sF_ne (by decide)]; exact e3777
                    have jj3783_8 : (fZ H3781 0 8).toInt = (fZ H3769 0 8).toInt := by rw [eH3781, fZ_sF_ne (by decide)]
                    have jj3784_10 : (fZ H3781 0 10).toInt = (fZ H3769 0 10).toInt := by rw [eH3781, fZ_sF_ne (by decide)]
                    have jj3785_13 : (fZ H3781 0 13).toInt = (fZ H3769 0 13).toInt := by rw [eH3781, fZ_sF_ne (by decide)]
                    have jj3786_8 : (fZ H3781 0 8).toInt = (fZ H3769 0 8).toInt := by rw [eH3781, fZ_sF_ne (by decide)]
                    have jj3787_13 : (fZ H3781 0 13).toInt = (fZ H3769 0 13).toInt := by rw [eH3781, fZ_sF_ne (by decide)]
                    exact g_ret ⟨rfl, hIH3781, hJH3781, (e3782.symm.trans ek0_2), (by omega)⟩
              · exfalso; omega
            · exfalso; omega
          · refine g_aload_n rfl ?_
            refine g_invvv hI sm_0 rfl rfl rfl rfl (s_166 H hI hJ) (fun H3788 r3789 => ?_)
            obtain ⟨hIH3788, hJH3788, w3790, w3791, p3792⟩ := r3789
            have e3793 : k0_2 = fZ H3788 0 2 := ek0_2.trans w3790.symm
            refine g_goto ?_
            refine g_aload_n rfl ?_
            refine g_gfi hIH3788 sm_0 rfl (fun v3794 ev3794 lv3794 uv3794 => ?_)
            have iev3794 : v3794.toInt = (fZ H3788 0 13).toInt := by rw [← ev3794]
            refine g_if_ne (fun c3795 => ?_) (fun c3795 => ?_)
            · refine g_aload_n rfl ?_
              refine g_invvv hIH3788 sm_0 rfl rfl rfl rfl (s_162 H3788 hIH3788 hJH3788) (fun H3796 r3797 => ?_)
              obtain ⟨hIH3796, hJH3796, w3798, w3799, w3800, m3801, p3802, p3803⟩ := r3797
              have e3804 : k0_2 = fZ H3796 0 2 := e3793.trans w3798.symm
              have e3805 : v3794 = fZ H3796 0 13 := ev3794.trans w3799.symm
              have ie3805 : v3794.toInt = (fZ H3796 0 13).toInt := by rw [← e3805]
              refine g_aload_n rfl ?_
              refine g_dup rfl ?_
              refine g_gfi hIH3796 sm_0 rfl (fun v3806 ev3806 lv3806 uv3806 => ?_)
              refine g_iconst (by decide) (fun v3807 kv3807 => ?_)
              refine g_iadd' (fun v3808 ov3808 => ?_)
              refine g_pfi hIH3796 sm_0 rfl (gz_any _) (fun H3809 eH3809 hIH3809 => ?_)
              have hJH3809 : JN H3809 := JN_sF eH3809 hJH3796
              have e3810 : k0_2 = fZ H3809 0 2 := by rw [eH3809, fZ_sF_ne (by decide)]; exact e3804
              have e3811 : v3794 = fZ H3809 0 13 := by rw [eH3809, fZ_sF_ne (by decide)]; exact e3805
              have jj3812_8 : (fZ H3809 0 8).toInt = (fZ H3796 0 8).toInt := by rw [eH3809, fZ_sF_ne (by decide)]
              have jj3813_10 : (fZ H3809 0 10).toInt = (fZ H3796 0 10).toInt := by rw [eH3809, fZ_sF_ne (by decide)]
              have jj3814_8 : (fZ H3809 0 8).toInt = (fZ H3796 0 8).toInt := by rw [eH3809, fZ_sF_ne (by decide)]
              have ie3811 : v3794.toInt = (fZ H3809 0 13).toInt := by rw [← e3811]
              exact g_ret ⟨rfl, hIH3809, hJH3809, (e3810.symm.trans ek0_2), (by omega)⟩
            · refine g_aload_n rfl ?_
              refine g_gfi hIH3788 sm_0 rfl (fun v3815 ev3815 lv3815 uv3815 => ?_)
              have iev3815 : v3815.toInt = (fZ H3788 0 10).toInt := by rw [← ev3815]
              refine g_iconst (by decide) (fun v3816 kv3816 => ?_)
              refine g_if2_eq (fun c3817 => ?_) (fun c3817 => ?_)
              · refine g_aload_n rfl ?_
                refine g_invvv hIH3788 sm_0 rfl rfl rfl rfl (s_162 H3788 hIH3788 hJH3788) (fun H3818 r3819 => ?_)
                obtain ⟨hIH3818, hJH3818, w3820, w3821, w3822, m3823, p3824, p3825⟩ := r3819
                have e3826 : k0_2 = fZ H3818 0 2 := e3793.trans w3820.symm
                have e3827 : v3794 = fZ H3818 0 13 := ev3794.trans w3821.symm
                have ie3827 : v3794.toInt = (fZ H3818 0 13).toInt := by rw [← e3827]
                refine g_aload_n rfl ?_
                refine g_dup rfl ?_
                refine g_gfi hIH3818 sm_0 rfl (fun v3828 ev3828 lv3828 uv3828 => ?_)
                refine g_iconst (by decide) (fun v3829 kv3829 => ?_)
                refine g_iadd' (fun v3830 ov3830 => ?_)
                refine g_pfi hIH3818 sm_0 rfl (gz_any _) (fun H3831 eH3831 hIH3831 => ?_)
                have hJH3831 : JN H3831 := JN_sF eH3831 hJH3818
                have e3832 : k0_2 = fZ H3831 0 2 := by rw [eH3831, fZ_sF_ne (by decide)]; exact e3826
                have e3833 : v3794 = fZ H3831 0 13 := by rw [eH3831, fZ_sF_ne (by decide)]; exact e3827
                have jj3834_8 : (fZ H3831 0 8).toInt = (fZ H3818 0 8).toInt := by rw [eH3831, fZ_sF_ne (by decide)]
                have jj3835_10 : (fZ H3831 0 10).toInt = (fZ H3818 0 10).toInt := by rw [eH3831, fZ_sF_ne (by decide)]
                have jj3836_8 : (fZ H3831 0 8).toInt = (fZ H3818 0 8).toInt := by rw [eH3831, fZ_sF_ne (by decide)]
                have ie3833 : v3794.toInt = (fZ H3831 0 13).toInt := by rw [← e3833]
                exact g_ret ⟨rfl, hIH3831, hJH3831, (e3832.symm.trans ek0_2), (by omega)⟩
              · refine g_aload_n rfl ?_
                refine g_iconst (by decide) (fun v3837 kv3837 => ?_)
                refine g_invvv hIH3788 sm_0 rfl rfl rfl rfl (s_161 v3837 (by omega) H3788 hIH3788 hJH3788) (fun H3838 r3839 => ?_)
                obtain ⟨hIH3838, hJH3838, w3840, w3841, w3842, w3843, m3844, p3845⟩ := r3839
                have e3846 : k0_2 = fZ H3838 0 2 := e3793.trans w3840.symm
                have e3847 : v3815 = fZ H3838 0 10 := ev3815.trans w3842.symm
                have iw3841 : (fZ H3838 0 8).toInt = (fZ H3788 0 8).toInt := by rw [w3841]
                have ie3847 : v3815.toInt = (fZ H3838 0 10).toInt := by rw [← e3847]
                refine g_nop ?_
                refine g_aload_n rfl ?_
                refine g_invvv hIH3838 sm_0 rfl rfl rfl rfl (s_162 H3838 hIH3838 hJH3838) (fun H3848 r3849 => ?_)
                obtain ⟨hIH3848, hJH3848, w3850, w3851, w3852, m3853, p3854, p3855⟩ := r3849
                have e3856 : k0_2 = fZ H3848 0 2 := e3846.trans w3850.symm
                have iw3851 : (fZ H3848 0 13).toInt = (fZ H3838 0 13).toInt := by rw [w3851]
                refine g_aload_n rfl ?_
                refine g_dup rfl ?_
                refine g_gfi hIH3848 sm_0 rfl (fun v3857 ev3857 lv3857 uv3857 => ?_)
                refine g_iconst (by decide) (fun v3858 kv3858 => ?_)
                refine g_iadd' (fun v3859 ov3859 => ?_)
                refine g_pfi hIH3848 sm_0 rfl (gz_any _) (fun H3860 eH3860 hIH3860 => ?_)
                have hJH3860 : JN H3860 := JN_sF eH3860 hJH3848
                have e3861 : k0_2 = fZ H3860 0 2 := by rw [eH3860, fZ_sF_ne (by decide)]; exact e3856
                have jj3862_8 : (fZ H3860 0 8).toInt = (fZ H3848 0 8).toInt := by rw [eH3860, fZ_sF_ne (by decide)]
                have jj3863_10 : (fZ H3860 0 10).toInt = (fZ H3848 0 10).toInt := by rw [eH3860, fZ_sF_ne (by decide)]
                have jj3864_13 : (fZ H3860 0 13).toInt = (fZ H3848 0 13).toInt := by rw [eH3860, fZ_sF_ne (by decide)]
                have jj3865_8 : (fZ H3860 0 8).toInt = (fZ H3848 0 8).toInt := by rw [eH3860, fZ_sF_ne (by decide)]
                have jj3866_13 : (fZ H3860 0 13).toInt = (fZ H3848 0 13).toInt := by rw [eH3860, fZ_sF_ne (by decide)]
                exact g_ret ⟨rfl, hIH3860, hJH3860, (e3861.symm.trans ek0_2), (by omega)⟩
      · refine g_aload_n rfl ?_
        refine g_invvv hI sm_0 rfl rfl rfl rfl (s_170 H hI hJ) (fun H3867 r3868 => ?_)
        obtain ⟨hIH3867, hJH3867, w3869, w3870, p3871⟩ := r3868
        have e3872 : k0_2 = fZ H3867 0 2 := ek0_2.trans w3869.symm
        refine g_goto ?_
        refine g_aload_n rfl ?_
        refine g_gfi hIH3867 sm_0 rfl (fun v3873 ev3873 lv3873 uv3873 => ?_)
        have iev3873 : v3873.toInt = (fZ H3867 0 13).toInt := by rw [← ev3873]
        refine g_if_ne (fun c3874 => ?_) (fun c3874 => ?_)
        · refine g_aload_n rfl ?_
          refine g_invvv hIH3867 sm_0 rfl rfl rfl rfl (s_162 H3867 hIH3867 hJH3867) (fun H3875 r3876 => ?_)
          obtain ⟨hIH3875, hJH3875, w3877, w3878, w3879, m3880, p3881, p3882⟩ := r3876
          have e3883 : k0_2 = fZ H3875 0 2 := e3872.trans w3877.symm
          have e3884 : v3873 = fZ H3875 0 13 := ev3873.trans w3878.symm
          have ie3884 : v3873.toInt = (fZ H3875 0 13).toInt := by rw [← e3884]
          refine g_aload_n rfl ?_
          refine g_dup rfl ?_
          refine g_gfi hIH3875 sm_0 rfl (fun v3885 ev3885 lv3885 uv3885 => ?_)
          refine g_iconst (by decide) (fun v3886 kv3886 => ?_)
          refine g_iadd' (fun v3887 ov3887 => ?_)
          refine g_pfi hIH3875 sm_0 rfl (gz_any _) (fun H3888 eH3888 hIH3888 => ?_)
          have hJH3888 : JN H3888 := JN_sF eH3888 hJH3875
          have e3889 : k0_2 = fZ H3888 0 2 := by rw [eH3888, fZ_sF_ne (by decide)]; exact e3883
          have e3890 : v3873 = fZ H3888 0 13 := by rw [eH3888, fZ_sF_ne (by decide)]; exact e3884
          have jj3891_8 : (fZ H3888 0 8).toInt = (fZ H3875 0 8).toInt := by rw [eH3888, fZ_sF_ne (by decide)]
          have jj3892_10 : (fZ H3888 0 10).toInt = (fZ H3875 0 10).toInt := by rw [eH3888, fZ_sF_ne (by decide)]
          have jj3893_8 : (fZ H3888 0 8).toInt = (fZ H3875 0 8).toInt := by rw [eH3888, fZ_sF_ne (by decide)]
          have ie3890 : v3873.toInt = (fZ H3888 0 13).toInt := by rw [← e3890]
          exact g_ret ⟨rfl, hIH3888, hJH3888, (e3889.symm.trans ek0_2), (by omega)⟩
        · refine g_aload_n rfl ?_
          refine g_gfi hIH3867 sm_0 rfl (fun v3894 ev3894 lv3894 uv3894 => ?_)
          have iev3894 : v3894.toInt = (fZ H3867 0 10).toInt := by rw [← ev3894]
          refine g_iconst (by decide) (fun v3895 kv3895 => ?_)
          refine g_if2_eq (fun c3896 => ?_) (fun c3896 => ?_)
          · refine g_aload_n rfl ?_
            refine g_invvv hIH3867 sm_0 rfl rfl rfl rfl (s_162 H3867 hIH3867 hJH3867) (fun H3897 r3898 => ?_)
            obtain ⟨hIH3897, hJH3897, w3899, w3900, w3901, m3902, p3903, p3904⟩ := r3898
            have e3905 : k0_2 = fZ H3897 0 2 := e3872.trans w3899.symm
            have e3906 : v3873 = fZ H3897 0 13 := ev3873.trans w3900.symm
            have ie3906 : v3873.toInt = (fZ H3897 0 13).toInt := by rw [← e3906]
            refine g_aload_n rfl ?_
            refine g_dup rfl ?_
            refine g_gfi hIH3897 sm_0 rfl (fun v3907 ev3907 lv3907 uv3907 => ?_)
            refine g_iconst (by decide) (fun v3908 kv3908 => ?_)
            refine g_iadd' (fun v3909 ov3909 => ?_)
            refine g_pfi hIH3897 sm_0 rfl (gz_any _) (fun H3910 eH3910 hIH3910 => ?_)
            have hJH3910 : JN H3910 := JN_sF eH3910 hJH3897
            have e3911 : k0_2 = fZ H3910 0 2 := by rw [eH3910, fZ_sF_ne (by decide)]; exact e3905
            have e3912 : v3873 = fZ H3910 0 13 := by rw [eH3910, fZ_sF_ne (by decide)]; exact e3906
            have jj3913_8 : (fZ H3910 0 8).toInt = (fZ H3897 0 8).toInt := by rw [eH3910, fZ_sF_ne (by decide)]
            have jj3914_10 : (fZ H3910 0 10).toInt = (fZ H3897 0 10).toInt := by rw [eH3910, fZ_sF_ne (by decide)]
            have jj3915_8 : (fZ H3910 0 8).toInt = (fZ H3897 0 8).toInt := by rw [eH3910, fZ_sF_ne (by decide)]
            have ie3912 : v3873.toInt = (fZ H3910 0 13).toInt := by rw [← e3912]
            exact g_ret ⟨rfl, hIH3910, hJH3910, (e3911.symm.trans ek0_2), (by omega)⟩
          · refine g_aload_n rfl ?_
            refine g_iconst (by decide) (fun v3916 kv3916 => ?_)
            refine g_invvv hIH3867 sm_0 rfl rfl rfl rfl (s_161 v3916 (by omega) H3867 hIH3867 hJH3867) (fun H3917 r3918 => ?_)
            obtain ⟨hIH3917, hJH3917, w3919, w3920, w3921, w3922, m3923, p3924⟩ := r3918
            have e3925 : k0_2 = fZ H3917 0 2 := e3872.trans w3919.symm
            have e3926 : v3894 = fZ H3917 0 10 := ev3894.trans w3921.symm
            have iw3920 : (fZ H3917 0 8).toInt = (fZ H3867 0 8).toInt := by rw [w3920]
            have ie3926 : v3894.toInt = (fZ H3917 0 10).toInt := by rw [← e3926]
            refine g_nop ?_
            refine g_aload_n rfl ?_
            refine g_invvv hIH3917 sm_0 rfl rfl rfl rfl (s_162 H3917 hIH3917 hJH3917) (fun H3927 r3928 => ?_)
            obtain ⟨hIH3927, hJH3927, w3929, w3930, w3931, m3932, p3933, p3934⟩ := r3928
            have e3935 : k0_2 = fZ H3927 0 2 := e3925.trans w3929.symm
            have iw3930 : (fZ H3927 0 13).toInt = (fZ H3917 0 13).toInt := by rw [w3930]
            refine g_aload_n rfl ?_
            refine g_dup rfl ?_
            refine g_gfi hIH3927 sm_0 rfl (fun v3936 ev3936 lv3936 uv3936 => ?_)
            refine g_iconst (by decide) (fun v3937 kv3937 => ?_)
            refine g_iadd' (fun v3938 ov3938 => ?_)
            refine g_pfi hIH3927 sm_0 rfl (gz_any _) (fun H3939 eH3939 hIH3939 => ?_)
            have hJH3939 : JN H3939 := JN_sF eH3939 hJH3927
            have e3940 : k0_2 = fZ H3939 0 2 := by rw [eH3939, fZ_sF_ne (by decide)]; exact e3935
            have jj3941_8 : (fZ H3939 0 8).toInt = (fZ H3927 0 8).toInt := by rw [eH3939, fZ_sF_ne (by decide)]
            have jj3942_10 : (fZ H3939 0 10).toInt = (fZ H3927 0 10).toInt := by rw [eH3939, fZ_sF_ne (by decide)]
            have jj3943_13 : (fZ H3939 0 13).toInt = (fZ H3927 0 13).toInt := by rw [eH3939, fZ_sF_ne (by decide)]
            have jj3944_8 : (fZ H3939 0 8).toInt = (fZ H3927 0 8).toInt := by rw [eH3939, fZ_sF_ne (by decide)]
            have jj3945_13 : (fZ H3939 0 13).toInt = (fZ H3927 0 13).toInt := by rw [eH3939, fZ_sF_ne (by decide)]
            exact g_ret ⟨rfl, hIH3939, hJH3939, (e3940.symm.trans ek0_2), (by omega)⟩
set_option maxRecDepth 4000 in
set_option maxHeartbeats 4000000 in
/-- M.freshText -/
theorem s_172 (H : mzH) (hI : gI SM H) (hJ : JN H) : gCall 172 [.ref 0] H (gRv (fun H' => gI SM H' ∧ JN H' ∧ fZ H' 0 2 = fZ H 0 2)) := by
  obtain ⟨k0_2, ek0_2⟩ : ∃ z, z = fZ H 0 2 := ⟨_, rfl⟩
  have ik0_2 : k0_2.toInt = (fZ H 0 2).toInt := by rw [← ek0_2]
  have bk0_2 : 0 ≤ k0_2.toInt ∧ k0_2.toInt ≤ 900 := by rw [ek0_2]; exact fZ_of hI sm_0 rfl
  have mk2 : ∀ i, aZ H 2 i = aZ H 2 i := fun _ => rfl
  have mk7 : ∀ i, aZ H 7 i = aZ H 7 i := fun _ => rfl
  have mk8 : ∀ i, aZ H 8 i = aZ H 8 i := fun _ => rfl
  have mk9 : ∀ i, aZ H 9 i = aZ H 9 i := fun _ => rfl
  refine gG_call [(0, .ref 0)] ⟨rfl, trivial⟩ ?_
  show gG 2 zB_172 (mzBlk zB_172 0) [(0, .ref 0)] [] H 0 0 _
  refine g_iconst (by decide) (fun v687 kv687 => ?_)
  refine g_istore_n (l' := [(0, .ref 0), (1, .int v687)]) rfl rfl ?_
  refine g_nop ?_
  have L695 : ∀ (N : Nat) (v688 : Int32) (H689 : mzH), gI SM H689 → k0_2 = fZ H689 0 2 → (∀ i, aZ H689 2 i = aZ H 2 i) → (∀ i, aZ H689 7 i = aZ H 7 i) → (∀ i, aZ H689 8 i = aZ H 8 i) → (∀ i, aZ H689 9 i = aZ H 9 i) → (0 ≤ v688.toInt ∧ v688.toInt ≤ 369) → (∀ i, i < v688.toInt.toNat → (aZ H689 3 i).toInt = 0) → (369 - v688.toInt).toNat < N → gG 2 zB_172 (mzBlk zB_172 1) [(0, .ref 0), (1, .int v688)] [] H689 0 0 (gRv (fun H' => gI SM H' ∧ JN H' ∧ fZ H' 0 2 = fZ H 0 2)) := by
    intro N
    induction N with
    | zero => intro v688 H689 hIH689 e690 m691 m692 m693 m694 bv688 q1 hmL695; exact absurd hmL695 (Nat.not_lt_zero _)
    | succ N ihL695 =>
      intro v688 H689 hIH689 e690 m691 m692 m693 m694 bv688 q1 hmL695
      refine g_iload_n rfl ?_
      refine g_sipush (by decide) (fun v696 kv696 => ?_)
      refine g_if2_ge (fun c697 => ?_) (fun c697 => ?_)
      · have hJ698 : JN H689 := JN_zr3 hJ (fun i hi => q1 i (by omega)) m691
        refine g_iconst (by decide) (fun v699 kv699 => ?_)
        refine g_istore_n (l' := [(0, .ref 0), (1, .int v699)]) rfl rfl ?_
        refine g_nop ?_
        have L707 : ∀ (N : Nat) (v700 : Int32) (H701 : mzH), gI SM H701 → JN H701 → k0_2 = fZ H701 0 2 → (∀ i, aZ H701 2 i = aZ H 2 i) → (∀ i, aZ H701 7 i = aZ H 7 i) → (∀ i, aZ H701 8 i = aZ H 8 i) → (∀ i, aZ H701 9 i = aZ H 9 i) → (0 ≤ v700.toInt ∧ v700.toInt ≤ 64) → (64 - v700.toInt).toNat < N → gG 2 zB_172 (mzBlk zB_172 3) [(0, .ref 0), (1, .int v700)] [] H701 0 0 (gRv (fun H' => gI SM H' ∧ JN H' ∧ fZ H' 0 2 = fZ H 0 2)) := by
          intro N
          induction N with
          | zero => intro v700 H701 hIH701 hJH701 e702 m703 m704 m705 m706 bv700 hmL707; exact absurd hmL707 (Nat.not_lt_zero _)
          | succ N ihL707 =>
            intro v700 H701 hIH701 hJH701 e702 m703 m704 m705 m706 bv700 hmL707
            refine g_iload_n rfl ?_
            refine g_bipush (by decide) (fun v708 kv708 => ?_)
            refine g_if2_ge (fun c709 => ?_) (fun c709 => ?_)
            · refine g_aload_n rfl ?_
              refine g_gfr hIH701 sm_0 rfl ?_
              refine g_iconst (by decide) (fun v710 kv710 => ?_)
              refine g_bipush (by decide) (fun v711 kv711 => ?_)
              refine g_iastore hIH701 sm_3 (by omega) (gz_any _) (fun H712 eH712 hIH712 => ?_)
              have hJH712 : JN H712 := JN_s3 hIH701 hJH701 (by omega) (by omega) (by omega) eH712
              have e713 : k0_2 = fZ H712 0 2 := by rw [eH712, fZ_sA]; exact e702
              have m714 : ∀ i, aZ H712 2 i = aZ H 2 i := fun i => (by rw [eH712, aZ_sA_nc (by omega)] : aZ H712 2 i = aZ H701 2 i).trans (m703 i)
              have m715 : ∀ i, aZ H712 7 i = aZ H 7 i := fun i => (by rw [eH712, aZ_sA_nc (by omega)] : aZ H712 7 i = aZ H701 7 i).trans (m704 i)
              have m716 : ∀ i, aZ H712 8 i = aZ H 8 i := fun i => (by rw [eH712, aZ_sA_nc (by omega)] : aZ H712 8 i = aZ H701 8 i).trans (m705 i)
              have m717 : ∀ i, aZ H712 9 i = aZ H 9 i := fun i => (by rw [eH712, aZ_sA_nc (by omega)] : aZ H712 9 i = aZ H701 9 i).trans (m706 i)
              refine g_aload_n rfl ?_
              refine g_gfr hIH712 sm_0 rfl ?_
              refine g_iconst (by decide) (fun v718 kv718 => ?_)
              refine g_bipush (by decide) (fun v719 kv719 => ?_)
              refine g_iastore hIH712 sm_3 (by omega) (gz_any _) (fun H720 eH720 hIH720 => ?_)
              have hJH720 : JN H720 := JN_s3 hIH712 hJH712 (by omega) (by omega) (by omega) eH720
              have e721 : k0_2 = fZ H720 0 2 := by rw [eH720, fZ_sA]; exact e713
              have m722 : ∀ i, aZ H720 2 i = aZ H 2 i := fun i => (by rw [eH720, aZ_sA_nc (by omega)] : aZ H720 2 i = aZ H712 2 i).trans (m714 i)
              have m723 : ∀ i, aZ H720 7 i = aZ H 7 i := fun i => (by rw [eH720, aZ_sA_nc (by omega)] : aZ H720 7 i = aZ H712 7 i).trans (m715 i)
              have m724 : ∀ i, aZ H720 8 i = aZ H 8 i := fun i => (by rw [eH720, aZ_sA_nc (by omega)] : aZ H720 8 i = aZ H712 8 i).trans (m716 i)
              have m725 : ∀ i, aZ H720 9 i = aZ H 9 i := fun i => (by rw [eH720, aZ_sA_nc (by omega)] : aZ H720 9 i = aZ H712 9 i).trans (m717 i)
              refine g_aload_n rfl ?_
              refine g_iconst (by decide) (fun v726 kv726 => ?_)
              refine g_pfz hIH720 sm_0 rfl (by omega) (fun H727 eH727 hIH727 => ?_)
              have hJH727 : JN H727 := JN_sF eH727 hJH720
              have e728 : k0_2 = fZ H727 0 2 := by rw [eH727, fZ_sF_ne (by decide)]; exact e721
              have m729 : ∀ i, aZ H727 2 i = aZ H 2 i := fun i => (by rw [eH727, aZ_sF] : aZ H727 2 i = aZ H720 2 i).trans (m722 i)
              have m730 : ∀ i, aZ H727 7 i = aZ H 7 i := fun i => (by rw [eH727, aZ_sF] : aZ H727 7 i = aZ H720 7 i).trans (m723 i)
              have m731 : ∀ i, aZ H727 8 i = aZ H 8 i := fun i => (by rw [eH727, aZ_sF] : aZ H727 8 i = aZ H720 8 i).trans (m724 i)
              have m732 : ∀ i, aZ H727 9 i = aZ H 9 i := fun i => (by rw [eH727, aZ_sF] : aZ H727 9 i = aZ H720 9 i).trans (m725 i)
              exact g_ret ⟨rfl, hIH727, hJH727, (e728.symm.trans ek0_2)⟩
            · refine g_aload_n rfl ?_
              refine g_gfr hIH701 sm_0 rfl ?_
              refine g_iconst (by decide) (fun v733 kv733 => ?_)
              refine g_iload_n rfl ?_
              refine g_iadd (by omega) (fun v734 ev734 => ?_)
              refine g_iload_n rfl ?_
              refine g_bipush (by decide) (fun v735 kv735 => ?_)
              refine g_irem' (by omega) (fun v736 _ => ?_)
              refine g_if_ne (fun c737 => ?_) (fun c737 => ?_)
              · refine g_ldc (by decide) (fun v738 kv738 => ?_)
                refine g_nop ?_
                refine g_iastore hIH701 sm_3 (by omega) (gz_any _) (fun H739 eH739 hIH739 => ?_)
                have hJH739 : JN H739 := JN_s3 hIH701 hJH701 (by omega) (by omega) (by omega) eH739
                have e740 : k0_2 = fZ H739 0 2 := by rw [eH739, fZ_sA]; exact e702
                have m741 : ∀ i, aZ H739 2 i = aZ H 2 i := fun i => (by rw [eH739, aZ_sA_nc (by omega)] : aZ H739 2 i = aZ H701 2 i).trans (m703 i)
                have m742 : ∀ i, aZ H739 7 i = aZ H 7 i := fun i => (by rw [eH739, aZ_sA_nc (by omega)] : aZ H739 7 i = aZ H701 7 i).trans (m704 i)
                have m743 : ∀ i, aZ H739 8 i = aZ H 8 i := fun i => (by rw [eH739, aZ_sA_nc (by omega)] : aZ H739 8 i = aZ H701 8 i).trans (m705 i)
                have m744 : ∀ i, aZ H739 9 i = aZ H 9 i := fun i => (by rw [eH739, aZ_sA_nc (by omega)] : aZ H739 9 i = aZ H701 9 i).trans (m706 i)
                refine g_iinc (l' := (fun v745 => [(0, .ref 0), (1, .int v745)])) rfl rfl (by decide) (by omega) (fun _ => rfl) (fun v745 ev745 => ?_)
                refine g_goto ?_
                exact ihL707 v745 H739 hIH739 hJH739 e740 m741 m742 m743 m744 (by omega) (by omega)
              · refine g_iconst (by decide) (fun v746 kv746 => ?_)
                refine g_goto ?_
                refine g_iastore hIH701 sm_3 (by omega) (gz_any _) (fun H747 eH747 hIH747 => ?_)
                have hJH747 : JN H747 := JN_s3 hIH701 hJH701 (by omega) (by omega) (by omega) eH747
                have e748 : k0_2 = fZ H747 0 2 := by rw [eH747, fZ_sA]; exact e702
                have m749 : ∀ i, aZ H747 2 i = aZ H 2 i := fun i => (by rw [eH747, aZ_sA_nc (by omega)] : aZ H747 2 i = aZ H701 2 i).trans (m703 i)
                have m750 : ∀ i, aZ H747 7 i = aZ H 7 i := fun i => (by rw [eH747, aZ_sA_nc (by omega)] : aZ H747 7 i = aZ H701 7 i).trans (m704 i)
                have m751 : ∀ i, aZ H747 8 i = aZ H 8 i := fun i => (by rw [eH747, aZ_sA_nc (by omega)] : aZ H747 8 i = aZ H701 8 i).trans (m705 i)
                have m752 : ∀ i, aZ H747 9 i = aZ H 9 i := fun i => (by rw [eH747, aZ_sA_nc (by omega)] : aZ H747 9 i = aZ H701 9 i).trans (m706 i)
                refine g_iinc (l' := (fun v753 => [(0, .ref 0), (1, .int v753)])) rfl rfl (by decide) (by omega) (fun _ => rfl) (fun v753 ev753 => ?_)
                refine g_goto ?_
                exact ihL707 v753 H747 hIH747 hJH747 e748 m749 m750 m751 m752 (by omega) (by omega)
        exact L707 _ v699 H689 hIH689 hJ698 e690 m691 m692 m693 m694 (by omega) (Nat.lt_succ_self _)
      · refine g_aload_n rfl ?_
        refine g_gfr hIH689 sm_0 rfl ?_
        refine g_iload_n rfl ?_
        refine g_iconst (by decide) (fun v754 kv754 => ?_)
        refine g_iastore hIH689 sm_3 (by omega) (gz_any _) (fun H755 eH755 hIH755 => ?_)
        have e756 : k0_2 = fZ H755 0 2 := by rw [eH755, fZ_sA]; exact e690
        have m757 : ∀ i, aZ H755 2 i = aZ H 2 i := fun i => (by rw [eH755, aZ_sA_nc (by omega)] : aZ H755 2 i = aZ H689 2 i).trans (m691 i)
        have m758 : ∀ i, aZ H755 7 i = aZ H 7 i := fun i => (by rw [eH755, aZ_sA_nc (by omega)] : aZ H755 7 i = aZ H689 7 i).trans (m692 i)
        have m759 : ∀ i, aZ H755 8 i = aZ H 8 i := fun i => (by rw [eH755, aZ_sA_nc (by omega)] : aZ H755 8 i = aZ H689 8 i).trans (m693 i)
        have m760 : ∀ i, aZ H755 9 i = aZ H 9 i := fun i => (by rw [eH755, aZ_sA_nc (by omega)] : aZ H755 9 i = aZ H689 9 i).trans (m694 i)
        refine g_iinc (l' := (fun v761 => [(0, .ref 0), (1, .int v761)])) rfl rfl (by decide) (by omega) (fun _ => rfl) (fun v761 ev761 => ?_)
        refine g_goto ?_
        exact ihL695 v761 H755 hIH755 e756 m757 m758 m759 m760 (by omega) (fun q hq => by rw [eH755]; if e : v688.toInt.toNat = q then (subst e; rw [aZ_sA_eq hIH689 sm_3 (by omega)]; omega) else (rw [aZ_sA_ne e]; exact q1 q (by omega))) (by omega)
  exact L695 _ v687 H hI ek0_2 mk2 mk7 mk8 mk9 (by omega) (fun q hq => absurd hq (by omega)) (Nat.lt_succ_self _)
set_option maxRecDepth 4000 in
set_option maxHeartbeats 4000000 in
/-- M.laysWays -/
theorem s_178 (H : mzH) (hI : gI SM H) (hJ : JN H) : gCall 178 [.ref 0] H (gRv (fun H' => gI SM H' ∧ JN H' ∧ (∀ a f, fZ H' a f = fZ H a f))) := by
  have mkF : ∀ a f, fZ H a f = fZ H a f := fun _ _ => rfl
  refine gG_call [(0, .ref 0)] ⟨rfl, trivial⟩ ?_
  show gG 5 zB_178 (mzBlk zB_178 0) [(0, .ref 0)] [] H 0 0 _
  refine g_iconst (by decide) (fun v630 kv630 => ?_)
  refine g_istore_n (l' := [(0, .ref 0), (1, .int v630)]) rfl rfl ?_
  refine g_nop ?_
  have L634 : ∀ (N : Nat) (v631 : Int32) (H632 : mzH), gI SM H632 → JN H632 → (∀ a f, fZ H632 a f = fZ H a f) → (0 ≤ v631.toInt ∧ v631.toInt ≤ 64) → (64 - v631.toInt).toNat < N → gG 5 zB_178 (mzBlk zB_178 1) [(0, .ref 0), (1, .int v631)] [] H632 0 0 (gRv (fun H' => gI SM H' ∧ JN H' ∧ (∀ a f, fZ H' a f = fZ H a f))) := by
    intro N
    induction N with
    | zero => intro v631 H632 hIH632 hJH632 m633 bv631 hmL634; exact absurd hmL634 (Nat.not_lt_zero _)
    | succ N ihL634 =>
      intro v631 H632 hIH632 hJH632 m633 bv631 hmL634
      refine g_iload_n rfl ?_
      refine g_bipush (by decide) (fun v635 kv635 => ?_)
      refine g_if2_ge (fun c636 => ?_) (fun c636 => ?_)
      · refine g_iconst (by decide) (fun v637 kv637 => ?_)
        refine g_istore_n (l' := [(0, .ref 0), (1, .int v637)]) rfl rfl ?_
        refine g_nop ?_
        have L641 : ∀ (N : Nat) (v638 : Int32) (H639 : mzH), gI SM H639 → JN H639 → (∀ a f, fZ H639 a f = fZ H a f) → (0 ≤ v638.toInt ∧ v638.toInt ≤ 8) → (8 - v638.toInt).toNat < N → gG 5 zB_178 (mzBlk zB_178 3) [(0, .ref 0), (1, .int v638)] [] H639 0 0 (gRv (fun H' => gI SM H' ∧ JN H' ∧ (∀ a f, fZ H' a f = fZ H a f))) := by
          intro N
          induction N with
          | zero => intro v638 H639 hIH639 hJH639 m640 bv638 hmL641; exact absurd hmL641 (Nat.not_lt_zero _)
          | succ N ihL641 =>
            intro v638 H639 hIH639 hJH639 m640 bv638 hmL641
            refine g_iload_n rfl ?_
            refine g_bipush (by decide) (fun v642 kv642 => ?_)
            refine g_if2_ge (fun c643 => ?_) (fun c643 => ?_)
            · exact g_ret ⟨rfl, hIH639, hJH639, m640⟩
            · refine g_iconst (by decide) (fun v644 kv644 => ?_)
              refine g_istore_n (l' := [(0, .ref 0), (1, .int v638), (2, .int v644)]) rfl rfl ?_
              refine g_nop ?_
              have L648 : ∀ (N : Nat) (v645 : Int32) (H646 : mzH), gI SM H646 → JN H646 → (∀ a f, fZ H646 a f = fZ H a f) → (0 ≤ v645.toInt ∧ v645.toInt ≤ 8) → (8 - v645.toInt).toNat < N → gG 5 zB_178 (mzBlk zB_178 4) [(0, .ref 0), (1, .int v638), (2, .int v645)] [] H646 0 0 (gRv (fun H' => gI SM H' ∧ JN H' ∧ (∀ a f, fZ H' a f = fZ H a f))) := by
                intro N
                induction N with
                | zero => intro v645 H646 hIH646 hJH646 m647 bv645 hmL648; exact absurd hmL648 (Nat.not_lt_zero _)
                | succ N ihL648 =>
                  intro v645 H646 hIH646 hJH646 m647 bv645 hmL648
                  refine g_iload_n rfl ?_
                  refine g_bipush (by decide) (fun v649 kv649 => ?_)
                  refine g_if2_ge (fun c650 => ?_) (fun c650 => ?_)
                  · refine g_iinc (l' := (fun v651 => [(0, .ref 0), (1, .int v651), (2, .int v645)])) rfl rfl (by decide) (by omega) (fun _ => rfl) (fun v651 ev651 => ?_)
                    refine g_goto ?_
                    refine gG_pick [0, 1] (l' := [(0, .ref 0), (1, .int v651)]) rfl ?_
                    exact ihL641 v651 H646 hIH646 hJH646 m647 (by omega) (by omega)
                  · refine g_iconst (by decide) (fun v652 kv652 => ?_)
                    refine g_istore_n (l' := [(0, .ref 0), (1, .int v638), (2, .int v645), (3, .int v652)]) rfl rfl ?_
                    refine g_nop ?_
                    have L656 : ∀ (N : Nat) (v653 : Int32) (H654 : mzH), gI SM H654 → JN H654 → (∀ a f, fZ H654 a f = fZ H a f) → (0 ≤ v653.toInt ∧ v653.toInt ≤ 8) → (8 - v653.toInt).toNat < N → gG 5 zB_178 (mzBlk zB_178 5) [(0, .ref 0), (1, .int v638), (2, .int v645), (3, .int v653)] [] H654 0 0 (gRv (fun H' => gI SM H' ∧ JN H' ∧ (∀ a f, fZ H' a f = fZ H a f))) := by
                      intro N
                      induction N with
                      | zero => intro v653 H654 hIH654 hJH654 m655 bv653 hmL656; exact absurd hmL656 (Nat.not_lt_zero _)
                      | succ N ihL656 =>
                        intro v653 H654 hIH654 hJH654 m655 bv653 hmL656
                        refine g_iload_n rfl ?_
                        refine g_bipush (by decide) (fun v657 kv657 => ?_)
                        refine g_if2_ge (fun c658 => ?_) (fun c658 => ?_)
                        · refine g_iinc (l' := (fun v659 => [(0, .ref 0), (1, .int v638), (2, .int v659), (3, .int v653)])) rfl rfl (by decide) (by omega) (fun _ => rfl) (fun v659 ev659 => ?_)
                          refine g_goto ?_
                          refine gG_pick [0, 1, 2] (l' := [(0, .ref 0), (1, .int v638), (2, .int v659)]) rfl ?_
                          exact ihL648 v659 H654 hIH654 hJH654 m655 (by omega) (by omega)
                        · refine g_aload_n rfl ?_
                          refine g_gfr hIH654 sm_0 rfl ?_
                          refine g_bipush (by decide) (fun v660 kv660 => ?_)
                          refine g_iload_n rfl ?_
                          refine g_imulk' (n := 8) kv660 (by omega) (fun v661 ev661 => ?_)
                          refine g_iload_n rfl ?_
                          refine g_iadd (by omega) (fun v662 ev662 => ?_)
                          refine g_iaload hIH654 sm_6 rfl (by omega) (fun v663 ev663 lv663 uv663 => ?_)
                          refine g_aload_n rfl ?_
                          refine g_gfr hIH654 sm_0 rfl ?_
                          refine g_bipush (by decide) (fun v664 kv664 => ?_)
                          refine g_iload_n rfl ?_
                          refine g_imulk' (n := 8) kv664 (by omega) (fun v665 ev665 => ?_)
                          refine g_iload_n rfl ?_
                          refine g_iadd (by omega) (fun v666 ev666 => ?_)
                          refine g_iaload hIH654 sm_6 rfl (by omega) (fun v667 ev667 lv667 uv667 => ?_)
                          refine g_iadd' (fun v668 ov668 => ?_)
                          refine g_istore (l' := [(0, .ref 0), (1, .int v638), (2, .int v645), (3, .int v653), (4, .int v668)]) rfl rfl ?_
                          refine g_iload rfl ?_
                          refine g_aload_n rfl ?_
                          refine g_gfr hIH654 sm_0 rfl ?_
                          refine g_bipush (by decide) (fun v669 kv669 => ?_)
                          refine g_iload_n rfl ?_
                          refine g_imulk' (n := 8) kv669 (by omega) (fun v670 ev670 => ?_)
                          refine g_iload_n rfl ?_
                          refine g_iadd (by omega) (fun v671 ev671 => ?_)
                          refine g_iaload hIH654 sm_6 rfl (by omega) (fun v672 ev672 lv672 uv672 => ?_)
                          refine g_if2_ge (fun c673 => ?_) (fun c673 => ?_)
                          · refine g_iinc (l' := (fun v674 => [(0, .ref 0), (1, .int v638), (2, .int v645), (3, .int v674), (4, .int v668)])) rfl rfl (by decide) (by omega) (fun _ => rfl) (fun v674 ev674 => ?_)
                            refine g_goto ?_
                            refine gG_pick [0, 1, 2, 3] (l' := [(0, .ref 0), (1, .int v638), (2, .int v645), (3, .int v674)]) rfl ?_
                            exact ihL656 v674 H654 hIH654 hJH654 m655 (by omega) (by omega)
                          · refine g_aload_n rfl ?_
                            refine g_gfr hIH654 sm_0 rfl ?_
                            refine g_bipush (by decide) (fun v675 kv675 => ?_)
                            refine g_iload_n rfl ?_
                            refine g_imulk' (n := 8) kv675 (by omega) (fun v676 ev676 => ?_)
                            refine g_iload_n rfl ?_
                            refine g_iadd (by omega) (fun v677 ev677 => ?_)
                            refine g_iload rfl ?_
                            refine g_iastore hIH654 sm_6 (by omega) (gz_any _) (fun H678 eH678 hIH678 => ?_)
                            have hJH678 : JN H678 := JN_sA (by decide) eH678 hJH654
                            have m679 : ∀ a f, fZ H678 a f = fZ H a f := fun a f => (by rw [eH678, fZ_sA] : fZ H678 a f = fZ H654 a f).trans (m655 a f)
                            refine g_nop ?_
                            refine g_iinc (l' := (fun v680 => [(0, .ref 0), (1, .int v638), (2, .int v645), (3, .int v680), (4, .int v668)])) rfl rfl (by decide) (by omega) (fun _ => rfl) (fun v680 ev680 => ?_)
                            refine g_goto ?_
                            refine gG_pick [0, 1, 2, 3] (l' := [(0, .ref 0), (1, .int v638), (2, .int v645), (3, .int v680)]) rfl ?_
                            exact ihL656 v680 H678 hIH678 hJH678 m679 (by omega) (by omega)
                    exact L656 _ v652 H646 hIH646 hJH646 m647 (by omega) (Nat.lt_succ_self _)
              exact L648 _ v644 H639 hIH639 hJH639 m640 (by omega) (Nat.lt_succ_self _)
        exact L641 _ v637 H632 hIH632 hJH632 m633 (by omega) (Nat.lt_succ_self _)
      · refine g_aload_n rfl ?_
        refine g_gfr hIH632 sm_0 rfl ?_
        refine g_iload_n rfl ?_
        refine g_aload_n rfl ?_
        refine g_gfr hIH632 sm_0 rfl ?_
        refine g_iconst (by decide) (fun v681 kv681 => ?_)
        refine g_iload_n rfl ?_
        refine g_iadd (by omega) (fun v682 ev682 => ?_)
        refine g_iaload hIH632 sm_2 rfl (by omega) (fun v683 ev683 lv683 uv683 => ?_)
        refine g_iastore hIH632 sm_6 (by omega) (gz_any _) (fun H684 eH684 hIH684 => ?_)
        have hJH684 : JN H684 := JN_sA (by decide) eH684 hJH632
        have m685 : ∀ a f, fZ H684 a f = fZ H a f := fun a f => (by rw [eH684, fZ_sA] : fZ H684 a f = fZ H632 a f).trans (m633 a f)
        refine g_iinc (l' := (fun v686 => [(0, .ref 0), (1, .int v686)])) rfl rfl (by decide) (by omega) (fun _ => rfl) (fun v686 ev686 => ?_)
        refine g_goto ?_
        exact ihL634 v686 H684 hIH684 hJH684 m685 (by omega) (by omega)
  exact L634 _ v630 H hI hJ mkF (by omega) (Nat.lt_succ_self _)
set_option maxRecDepth 4000 in
set_option maxHeartbeats 4000000 in
/-- M.becomes -/
theorem s_174 (H : mzH) (hI : gI SM H) (hJ : JN H) : gCall 174 [.ref 0] H (gRv (fun H' => gI SM H' ∧ JN H' ∧ fZ H' 0 2 = fZ H 0 2)) := by
  obtain ⟨k0_2, ek0_2⟩ : ∃ z, z = fZ H 0 2 := ⟨_, rfl⟩
  have ik0_2 : k0_2.toInt = (fZ H 0 2).toInt := by rw [← ek0_2]
  have bk0_2 : 0 ≤ k0_2.toInt ∧ k0_2.toInt ≤ 900 := by rw [ek0_2]; exact fZ_of hI sm_0 rfl
  have mk3 : ∀ i, aZ H 3 i = aZ H 3 i := fun _ => rfl
  have mk7 : ∀ i, aZ H 7 i = aZ H 7 i := fun _ => rfl
  have mk8 : ∀ i, aZ H 8 i = aZ H 8 i := fun _ => rfl
  have mk9 : ∀ i, aZ H 9 i = aZ H 9 i := fun _ => rfl
  refine gG_call [(0, .ref 0)] ⟨rfl, trivial⟩ ?_
  show gG 2 zB_174 (mzBlk zB_174 0) [(0, .ref 0)] [] H 0 0 _
  refine g_iconst (by decide) (fun v349 kv349 => ?_)
  refine g_istore_n (l' := [(0, .ref 0), (1, .int v349)]) rfl rfl ?_
  refine g_nop ?_
  have L357 : ∀ (N : Nat) (v350 : Int32) (H351 : mzH), gI SM H351 → k0_2 = fZ H351 0 2 → (∀ i, aZ H351 3 i = aZ H 3 i) → (∀ i, aZ H351 7 i = aZ H 7 i) → (∀ i, aZ H351 8 i = aZ H 8 i) → (∀ i, aZ H351 9 i = aZ H 9 i) → (0 ≤ v350.toInt ∧ v350.toInt ≤ 369) → (∀ i, i < v350.toInt.toNat → aZ H351 2 i = aZ H 3 i) → (369 - v350.toInt).toNat < N → gG 2 zB_174 (mzBlk zB_174 1) [(0, .ref 0), (1, .int v350)] [] H351 0 0 (gRv (fun H' => gI SM H' ∧ JN H' ∧ fZ H' 0 2 = fZ H 0 2)) := by
    intro N
    induction N with
    | zero => intro v350 H351 hIH351 e352 m353 m354 m355 m356 bv350 q1 hmL357; exact absurd hmL357 (Nat.not_lt_zero _)
    | succ N ihL357 =>
      intro v350 H351 hIH351 e352 m353 m354 m355 m356 bv350 q1 hmL357
      refine g_iload_n rfl ?_
      refine g_sipush (by decide) (fun v358 kv358 => ?_)
      refine g_if2_ge (fun c359 => ?_) (fun c359 => ?_)
      · have hJ360 : JN H351 := JN_cp2 hJ (fun i hi => q1 i (by omega)) m353
        refine g_iconst (by decide) (fun v361 kv361 => ?_)
        refine g_istore_n (l' := [(0, .ref 0), (1, .int v361)]) rfl rfl ?_
        refine g_nop ?_
        have L369 : ∀ (N : Nat) (v362 : Int32) (H363 : mzH), gI SM H363 → JN H363 → k0_2 = fZ H363 0 2 → (∀ i, aZ H363 3 i = aZ H 3 i) → (∀ i, aZ H363 7 i = aZ H 7 i) → (∀ i, aZ H363 8 i = aZ H 8 i) → (∀ i, aZ H363 9 i = aZ H 9 i) → (0 ≤ v362.toInt ∧ v362.toInt ≤ 8) → (8 - v362.toInt).toNat < N → gG 2 zB_174 (mzBlk zB_174 3) [(0, .ref 0), (1, .int v362)] [] H363 0 0 (gRv (fun H' => gI SM H' ∧ JN H' ∧ fZ H' 0 2 = fZ H 0 2)) := by
          intro N
          induction N with
          | zero => intro v362 H363 hIH363 hJH363 e364 m365 m366 m367 m368 bv362 hmL369; exact absurd hmL369 (Nat.not_lt_zero _)
          | succ N ihL369 =>
            intro v362 H363 hIH363 hJH363 e364 m365 m366 m367 m368 bv362 hmL369
            refine g_iload_n rfl ?_
            refine g_bipush (by decide) (fun v370 kv370 => ?_)
            refine g_if2_ge (fun c371 => ?_) (fun c371 => ?_)
            · refine g_aload_n rfl ?_
              refine g_aload_n rfl ?_
              refine g_gfi hIH363 sm_0 rfl (fun v372 ev372 lv372 uv372 => ?_)
              refine g_pfz hIH363 sm_0 rfl (by omega) (fun H373 eH373 hIH373 => ?_)
              have hJH373 : JN H373 := JN_sF eH373 hJH363
              have e374 : k0_2 = fZ H373 0 2 := by rw [eH373, fZ_sF_ne (by decide)]; exact e364
              have m375 : ∀ i, aZ H373 3 i = aZ H 3 i := fun i => (by rw [eH373, aZ_sF] : aZ H373 3 i = aZ H363 3 i).trans (m365 i)
              have m376 : ∀ i, aZ H373 7 i = aZ H 7 i := fun i => (by rw [eH373, aZ_sF] : aZ H373 7 i = aZ H363 7 i).trans (m366 i)
              have m377 : ∀ i, aZ H373 8 i = aZ H 8 i := fun i => (by rw [eH373, aZ_sF] : aZ H373 8 i = aZ H363 8 i).trans (m367 i)
              have m378 : ∀ i, aZ H373 9 i = aZ H 9 i := fun i => (by rw [eH373, aZ_sF] : aZ H373 9 i = aZ H363 9 i).trans (m368 i)
              refine g_aload_n rfl ?_
              refine g_invvv hIH373 sm_0 rfl rfl rfl rfl (s_178 H373 hIH373 hJH373) (fun H379 r380 => ?_)
              obtain ⟨hIH379, hJH379, m381⟩ := r380
              have e382 : k0_2 = fZ H379 0 2 := e374.trans (m381 0 2).symm
              exact g_ret ⟨rfl, hIH379, hJH379, (e382.symm.trans ek0_2)⟩
            · refine g_aload_n rfl ?_
              refine g_gfr hIH363 sm_0 rfl ?_
              refine g_iload_n rfl ?_
              refine g_aload_n rfl ?_
              refine g_gfr hIH363 sm_0 rfl ?_
              refine g_iload_n rfl ?_
              refine g_iaload hIH363 sm_4 rfl (by omega) (fun v383 ev383 lv383 uv383 => ?_)
              refine g_iastore hIH363 sm_5 (by omega) (gz_any _) (fun H384 eH384 hIH384 => ?_)
              have hJH384 : JN H384 := JN_sA (by decide) eH384 hJH363
              have e385 : k0_2 = fZ H384 0 2 := by rw [eH384, fZ_sA]; exact e364
              have m386 : ∀ i, aZ H384 3 i = aZ H 3 i := fun i => (by rw [eH384, aZ_sA_nc (by omega)] : aZ H384 3 i = aZ H363 3 i).trans (m365 i)
              have m387 : ∀ i, aZ H384 7 i = aZ H 7 i := fun i => (by rw [eH384, aZ_sA_nc (by omega)] : aZ H384 7 i = aZ H363 7 i).trans (m366 i)
              have m388 : ∀ i, aZ H384 8 i = aZ H 8 i := fun i => (by rw [eH384, aZ_sA_nc (by omega)] : aZ H384 8 i = aZ H363 8 i).trans (m367 i)
              have m389 : ∀ i, aZ H384 9 i = aZ H 9 i := fun i => (by rw [eH384, aZ_sA_nc (by omega)] : aZ H384 9 i = aZ H363 9 i).trans (m368 i)
              refine g_iinc (l' := (fun v390 => [(0, .ref 0), (1, .int v390)])) rfl rfl (by decide) (by omega) (fun _ => rfl) (fun v390 ev390 => ?_)
              refine g_goto ?_
              exact ihL369 v390 H384 hIH384 hJH384 e385 m386 m387 m388 m389 (by omega) (by omega)
        exact L369 _ v361 H351 hIH351 hJ360 e352 m353 m354 m355 m356 (by omega) (Nat.lt_succ_self _)
      · refine g_aload_n rfl ?_
        refine g_gfr hIH351 sm_0 rfl ?_
        refine g_iload_n rfl ?_
        refine g_aload_n rfl ?_
        refine g_gfr hIH351 sm_0 rfl ?_
        refine g_iload_n rfl ?_
        refine g_iaload hIH351 sm_3 rfl (by omega) (fun v391 ev391 lv391 uv391 => ?_)
        refine g_iastore hIH351 sm_2 (by omega) (gz_any _) (fun H392 eH392 hIH392 => ?_)
        have e393 : k0_2 = fZ H392 0 2 := by rw [eH392, fZ_sA]; exact e352
        have m394 : ∀ i, aZ H392 3 i = aZ H 3 i := fun i => (by rw [eH392, aZ_sA_nc (by omega)] : aZ H392 3 i = aZ H351 3 i).trans (m353 i)
        have m395 : ∀ i, aZ H392 7 i = aZ H 7 i := fun i => (by rw [eH392, aZ_sA_nc (by omega)] : aZ H392 7 i = aZ H351 7 i).trans (m354 i)
        have m396 : ∀ i, aZ H392 8 i = aZ H 8 i := fun i => (by rw [eH392, aZ_sA_nc (by omega)] : aZ H392 8 i = aZ H351 8 i).trans (m355 i)
        have m397 : ∀ i, aZ H392 9 i = aZ H 9 i := fun i => (by rw [eH392, aZ_sA_nc (by omega)] : aZ H392 9 i = aZ H351 9 i).trans (m356 i)
        refine g_iinc (l' := (fun v398 => [(0, .ref 0), (1, .int v398)])) rfl rfl (by decide) (by omega) (fun _ => rfl) (fun v398 ev398 => ?_)
        refine g_goto ?_
        exact ihL357 v398 H392 hIH392 e393 m394 m395 m396 m397 (by omega) (fun q hq => by rw [eH392]; if e : v350.toInt.toNat = q then (subst e; rw [aZ_sA_eq hIH351 sm_2 (by omega), ev391, m353]) else (rw [aZ_sA_ne e]; exact q1 q (by omega))) (by omega)
  exact L357 _ v349 H hI ek0_2 mk3 mk7 mk8 mk9 (by omega) (fun q hq => absurd hq (by omega)) (Nat.lt_succ_self _)
set_option maxRecDepth 4000 in
set_option maxHeartbeats 4000000 in
/-- M.reads -/
theorem s_173 (a1 : Int32) (ha1 : 0 ≤ a1.toInt ∧ a1.toInt ≤ 900) (a2 : Int32) (ha2 : 0 ≤ a2.toInt ∧ a2.toInt ≤ 1) (H : mzH) (hI : gI SM H) (hJ : JN H) : gCall 173 [.ref 0, .int a1, .int a2] H (gRi (fun v H' => gI SM H' ∧ JN H' ∧ (fZ H' 0 2).toInt = 0)) := by
  refine gG_call [(0, .ref 0), (1, .int a1), (2, .int a2)] ⟨rfl, rfl, rfl, trivial⟩ ?_
  show gG 3 zB_173 (mzBlk zB_173 0) [(0, .ref 0), (1, .int a1), (2, .int a2)] [] H 0 0 _
  refine g_aload_n rfl ?_
  refine g_iload_n rfl ?_
  refine g_pfi hI sm_0 rfl (by omega) (fun H425 eH425 hIH425 => ?_)
  have hJH425 : JN H425 := JN_sF eH425 hJ
  have jj426_8 : (fZ H425 0 8).toInt = (fZ H 0 8).toInt := by rw [eH425, fZ_sF_ne (by decide)]
  have jj427_10 : (fZ H425 0 10).toInt = (fZ H 0 10).toInt := by rw [eH425, fZ_sF_ne (by decide)]
  have jj428_13 : (fZ H425 0 13).toInt = (fZ H 0 13).toInt := by rw [eH425, fZ_sF_ne (by decide)]
  have jj429_2 : (fZ H425 0 2).toInt = (fZ H 0 2).toInt := by rw [eH425, fZ_sF_ne (by decide)]
  refine g_aload_n rfl ?_
  refine g_iconst (by decide) (fun v430 kv430 => ?_)
  refine g_pfi hIH425 sm_0 rfl (by omega) (fun H431 eH431 hIH431 => ?_)
  have hJH431 : JN H431 := JN_sF eH431 hJH425
  have e432 : v430 = fZ H431 0 8 := by rw [eH431, fZ_sF_eq hIH425 sm_0 rfl]
  have jj433_10 : (fZ H431 0 10).toInt = (fZ H425 0 10).toInt := by rw [eH431, fZ_sF_ne (by decide)]
  have jj434_13 : (fZ H431 0 13).toInt = (fZ H425 0 13).toInt := by rw [eH431, fZ_sF_ne (by decide)]
  have jj435_2 : (fZ H431 0 2).toInt = (fZ H425 0 2).toInt := by rw [eH431, fZ_sF_ne (by decide)]
  have ie432 : v430.toInt = (fZ H431 0 8).toInt := by rw [← e432]
  refine g_aload_n rfl ?_
  refine g_iconst (by decide) (fun v436 kv436 => ?_)
  refine g_pfi hIH431 sm_0 rfl (gz_any _) (fun H437 eH437 hIH437 => ?_)
  have hJH437 : JN H437 := JN_sF eH437 hJH431
  have e438 : v430 = fZ H437 0 8 := by rw [eH437, fZ_sF_ne (by decide)]; exact e432
  have e439 : v436 = fZ H437 0 13 := by rw [eH437, fZ_sF_eq hIH431 sm_0 rfl]
  have jj440_10 : (fZ H437 0 10).toInt = (fZ H431 0 10).toInt := by rw [eH437, fZ_sF_ne (by decide)]
  have jj441_2 : (fZ H437 0 2).toInt = (fZ H431 0 2).toInt := by rw [eH437, fZ_sF_ne (by decide)]
  have ie438 : v430.toInt = (fZ H437 0 8).toInt := by rw [← e438]
  have ie439 : v436.toInt = (fZ H437 0 13).toInt := by rw [← e439]
  refine g_aload_n rfl ?_
  refine g_iconst (by decide) (fun v442 kv442 => ?_)
  refine g_pfi hIH437 sm_0 rfl (gz_any _) (fun H443 eH443 hIH443 => ?_)
  have hJH443 : JN H443 := JN_sF eH443 hJH437
  have e444 : v430 = fZ H443 0 8 := by rw [eH443, fZ_sF_ne (by decide)]; exact e438
  have e445 : v436 = fZ H443 0 13 := by rw [eH443, fZ_sF_ne (by decide)]; exact e439
  have jj446_10 : (fZ H443 0 10).toInt = (fZ H437 0 10).toInt := by rw [eH443, fZ_sF_ne (by decide)]
  have jj447_2 : (fZ H443 0 2).toInt = (fZ H437 0 2).toInt := by rw [eH443, fZ_sF_ne (by decide)]
  have ie444 : v430.toInt = (fZ H443 0 8).toInt := by rw [← e444]
  have ie445 : v436.toInt = (fZ H443 0 13).toInt := by rw [← e445]
  refine g_aload_n rfl ?_
  refine g_invvv hIH443 sm_0 rfl rfl rfl rfl (s_159 H443 hIH443 hJH443) (fun H448 r449 => ?_)
  obtain ⟨hIH448, hJH448, w450, w451, w452, w453, m454, p455, p456⟩ := r449
  have e457 : v436 = fZ H448 0 13 := e445.trans w451.symm
  have iw450 : (fZ H448 0 2).toInt = (fZ H443 0 2).toInt := by rw [w450]
  have ie457 : v436.toInt = (fZ H448 0 13).toInt := by rw [← e457]
  refine g_nop ?_
  have L459 : ∀ (N : Nat) (H458 : mzH), gI SM H458 → JN H458 → mR H458 < N → gG 3 zB_173 (mzBlk zB_173 1) [(0, .ref 0), (1, .int a1), (2, .int a2)] [] H458 0 0 (gRi (fun v H' => gI SM H' ∧ JN H' ∧ (fZ H' 0 2).toInt = 0)) := by
    intro N
    induction N with
    | zero => intro H458 hIH458 hJH458 hmL459; exact absurd hmL459 (Nat.not_lt_zero _)
    | succ N ihL459 =>
      intro H458 hIH458 hJH458 hmL459
      obtain ⟨k460, ek460⟩ : ∃ z, z = fZ H458 0 8 := ⟨_, rfl⟩
      have ik460 : k460.toInt = (fZ H458 0 8).toInt := by rw [← ek460]
      have bk460 : 0 ≤ k460.toInt ∧ k460.toInt ≤ 900 := by rw [ek460]; exact fZ_of hIH458 sm_0 rfl
      obtain ⟨k461, ek461⟩ : ∃ z, z = fZ H458 0 10 := ⟨_, rfl⟩
      have ik461 : k461.toInt = (fZ H458 0 10).toInt := by rw [← ek461]
      have bk461 : 0 ≤ k461.toInt ∧ k461.toInt ≤ 4 := by rw [ek461]; exact fZ_of hIH458 sm_0 rfl
      obtain ⟨k462, ek462⟩ : ∃ z, z = fZ H458 0 13 := ⟨_, rfl⟩
      have ik462 : k462.toInt = (fZ H458 0 13).toInt := by rw [← ek462]
      refine g_aload_n rfl ?_
      refine g_gfk hIH458 sm_0 rfl ek462 ?_
      refine g_if_ne (fun c463 => ?_) (fun c463 => ?_)
      · refine g_aload_n rfl ?_
        refine g_iconst (by decide) (fun v464 kv464 => ?_)
        refine g_pfi hIH458 sm_0 rfl (by omega) (fun H465 eH465 hIH465 => ?_)
        have hJH465 : JN H465 := JN_sF eH465 hJH458
        have e466 : k460 = fZ H465 0 8 := by rw [eH465, fZ_sF_ne (by decide)]; exact ek460
        have e467 : k461 = fZ H465 0 10 := by rw [eH465, fZ_sF_ne (by decide)]; exact ek461
        have e468 : k462 = fZ H465 0 13 := by rw [eH465, fZ_sF_ne (by decide)]; exact ek462
        have e469 : v464 = fZ H465 0 2 := by rw [eH465, fZ_sF_eq hIH458 sm_0 rfl]
        have ie466 : k460.toInt = (fZ H465 0 8).toInt := by rw [← e466]
        have ie467 : k461.toInt = (fZ H465 0 10).toInt := by rw [← e467]
        have ie468 : k462.toInt = (fZ H465 0 13).toInt := by rw [← e468]
        have ie469 : v464.toInt = (fZ H465 0 2).toInt := by rw [← e469]
        refine g_aload_n rfl ?_
        refine g_aload_n rfl ?_
        refine g_gfk hIH465 sm_0 rfl e468 ?_
        refine g_pfi hIH465 sm_0 rfl (gz_any _) (fun H470 eH470 hIH470 => ?_)
        have hJH470 : JN H470 := JN_sF eH470 hJH465
        have e471 : k460 = fZ H470 0 8 := by rw [eH470, fZ_sF_ne (by decide)]; exact e466
        have e472 : k461 = fZ H470 0 10 := by rw [eH470, fZ_sF_ne (by decide)]; exact e467
        have e473 : k462 = fZ H470 0 13 := by rw [eH470, fZ_sF_ne (by decide)]; exact e468
        have e474 : v464 = fZ H470 0 2 := by rw [eH470, fZ_sF_ne (by decide)]; exact e469
        have ie471 : k460.toInt = (fZ H470 0 8).toInt := by rw [← e471]
        have ie472 : k461.toInt = (fZ H470 0 10).toInt := by rw [← e472]
        have ie473 : k462.toInt = (fZ H470 0 13).toInt := by rw [← e473]
        have ie474 : v464.toInt = (fZ H470 0 2).toInt := by rw [← e474]
        refine g_aload_n rfl ?_
        refine g_aload_n rfl ?_
        refine g_gfk hIH470 sm_0 rfl e473 ?_
        refine g_if_ne (fun c475 => ?_) (fun c475 => ?_)
        · refine g_aload_n rfl ?_
          refine g_gfi hIH470 sm_0 rfl (fun v476 ev476 lv476 uv476 => ?_)
          refine g_nop ?_
          refine g_pfi hIH470 sm_0 rfl (gz_any _) (fun H477 eH477 hIH477 => ?_)
          have hJH477 : JN H477 := JN_sF eH477 hJH470
          have e478 : k460 = fZ H477 0 8 := by rw [eH477, fZ_sF_ne (by decide)]; exact e471
          have e479 : k461 = fZ H477 0 10 := by rw [eH477, fZ_sF_ne (by decide)]; exact e472
          have e480 : k462 = fZ H477 0 13 := by rw [eH477, fZ_sF_ne (by decide)]; exact e473
          have e481 : v464 = fZ H477 0 2 := by rw [eH477, fZ_sF_ne (by decide)]; exact e474
          have ie478 : k460.toInt = (fZ H477 0 8).toInt := by rw [← e478]
          have ie479 : k461.toInt = (fZ H477 0 10).toInt := by rw [← e479]
          have ie480 : k462.toInt = (fZ H477 0 13).toInt := by rw [← e480]
          have ie481 : v464.toInt = (fZ H477 0 2).toInt := by rw [← e481]
          refine g_aload_n rfl ?_
          refine g_gfk hIH477 sm_0 rfl e480 ?_
          refine g_if_eq (fun c482 => ?_) (fun c482 => ?_)
          · refine g_aload_n rfl ?_
            refine g_invvv hIH477 sm_0 rfl rfl rfl rfl (s_174 H477 hIH477 hJH477) (fun H483 r484 => ?_)
            obtain ⟨hIH483, hJH483, w485⟩ := r484
            have e486 : v464 = fZ H483 0 2 := e481.trans w485.symm
            have ie486 : v464.toInt = (fZ H483 0 2).toInt := by rw [← e486]
            refine g_aload_n rfl ?_
            refine g_gfi hIH483 sm_0 rfl (fun v487 ev487 lv487 uv487 => ?_)
            exact g_iret ⟨_, rfl, hIH483, hJH483, (by omega)⟩
          · refine g_iconst (by decide) (fun v488 kv488 => ?_)
            exact g_iret ⟨_, rfl, hIH477, hJH477, (by omega)⟩
        · refine g_iconst (by decide) (fun v489 kv489 => ?_)
          refine g_goto ?_
          refine g_pfi hIH470 sm_0 rfl (gz_any _) (fun H490 eH490 hIH490 => ?_)
          have hJH490 : JN H490 := JN_sF eH490 hJH470
          have e491 : k460 = fZ H490 0 8 := by rw [eH490, fZ_sF_ne (by decide)]; exact e471
          have e492 : k461 = fZ H490 0 10 := by rw [eH490, fZ_sF_ne (by decide)]; exact e472
          have e493 : k462 = fZ H490 0 13 := by rw [eH490, fZ_sF_ne (by decide)]; exact e473
          have e494 : v464 = fZ H490 0 2 := by rw [eH490, fZ_sF_ne (by decide)]; exact e474
          have ie491 : k460.toInt = (fZ H490 0 8).toInt := by rw [← e491]
          have ie492 : k461.toInt = (fZ H490 0 10).toInt := by rw [← e492]
          have ie493 : k462.toInt = (fZ H490 0 13).toInt := by rw [← e493]
          have ie494 : v464.toInt = (fZ H490 0 2).toInt := by rw [← e494]
          refine g_aload_n rfl ?_
          refine g_gfk hIH490 sm_0 rfl e493 ?_
          refine g_if_eq (fun c495 => ?_) (fun c495 => ?_)
          · refine g_aload_n rfl ?_
            refine g_invvv hIH490 sm_0 rfl rfl rfl rfl (s_174 H490 hIH490 hJH490) (fun H496 r497 => ?_)
            obtain ⟨hIH496, hJH496, w498⟩ := r497
            have e499 : v464 = fZ H496 0 2 := e494.trans w498.symm
            have ie499 : v464.toInt = (fZ H496 0 2).toInt := by rw [← e499]
            refine g_aload_n rfl ?_
            refine g_gfi hIH496 sm_0 rfl (fun v500 ev500 lv500 uv500 => ?_)
            exact g_iret ⟨_, rfl, hIH496, hJH496, (by omega)⟩
          · exfalso; omega
      · refine g_aload_n rfl ?_
        refine g_gfk hIH458 sm_0 rfl ek461 ?_
        refine g_iconst (by decide) (fun v501 kv501 => ?_)
        refine g_if2_eq (fun c502 => ?_) (fun c502 => ?_)
        · refine g_aload_n rfl ?_
          refine g_iconst (by decide) (fun v503 kv503 => ?_)
          refine g_pfi hIH458 sm_0 rfl (by omega) (fun H504 eH504 hIH504 => ?_)
          have hJH504 : JN H504 := JN_sF eH504 hJH458
          have e505 : k460 = fZ H504 0 8 := by rw [eH504, fZ_sF_ne (by decide)]; exact ek460
          have e506 : k461 = fZ H504 0 10 := by rw [eH504, fZ_sF_ne (by decide)]; exact ek461
          have e507 : k462 = fZ H504 0 13 := by rw [eH504, fZ_sF_ne (by decide)]; exact ek462
          have e508 : v503 = fZ H504 0 2 := by rw [eH504, fZ_sF_eq hIH458 sm_0 rfl]
          have ie505 : k460.toInt = (fZ H504 0 8).toInt := by rw [← e505]
          have ie506 : k461.toInt = (fZ H504 0 10).toInt := by rw [← e506]
          have ie507 : k462.toInt = (fZ H504 0 13).toInt := by rw [← e507]
          have ie508 : v503.toInt = (fZ H504 0 2).toInt := by rw [← e508]
          refine g_aload_n rfl ?_
          refine g_aload_n rfl ?_
          refine g_gfk hIH504 sm_0 rfl e507 ?_
          refine g_pfi hIH504 sm_0 rfl (gz_any _) (fun H509 eH509 hIH509 => ?_)
          have hJH509 : JN H509 := JN_sF eH509 hJH504
          have e510 : k460 = fZ H509 0 8 := by rw [eH509, fZ_sF_ne (by decide)]; exact e505
          have e511 : k461 = fZ H509 0 10 := by rw [eH509, fZ_sF_ne (by decide)]; exact e506
          have e512 : k462 = fZ H509 0 13 := by rw [eH509, fZ_sF_ne (by decide)]; exact e507
          have e513 : v503 = fZ H509 0 2 := by rw [eH509, fZ_sF_ne (by decide)]; exact e508
          have ie510 : k460.toInt = (fZ H509 0 8).toInt := by rw [← e510]
          have ie511 : k461.toInt = (fZ H509 0 10).toInt := by rw [← e511]
          have ie512 : k462.toInt = (fZ H509 0 13).toInt := by rw [← e512]
          have ie513 : v503.toInt = (fZ H509 0 2).toInt := by rw [← e513]
          refine g_aload_n rfl ?_
          refine g_aload_n rfl ?_
          refine g_gfk hIH509 sm_0 rfl e512 ?_
          refine g_if_ne (fun c514 => ?_) (fun c514 => ?_)
          · exfalso; omega
          · refine g_iconst (by decide) (fun v515 kv515 => ?_)
            refine g_goto ?_
            refine g_pfi hIH509 sm_0 rfl (gz_any _) (fun H516 eH516 hIH516 => ?_)
            have hJH516 : JN H516 := JN_sF eH516 hJH509
            have e517 : k460 = fZ H516 0 8 := by rw [eH516, fZ_sF_ne (by decide)]; exact e510
            have e518 : k461 = fZ H516 0 10 := by rw [eH516, fZ_sF_ne (by decide)]; exact e511
            have e519 : k462 = fZ H516 0 13 := by rw [eH516, fZ_sF_ne (by decide)]; exact e512
            have e520 : v503 = fZ H516 0 2 := by rw [eH516, fZ_sF_ne (by decide)]; exact e513
            have ie517 : k460.toInt = (fZ H516 0 8).toInt := by rw [← e517]
            have ie518 : k461.toInt = (fZ H516 0 10).toInt := by rw [← e518]
            have ie519 : k462.toInt = (fZ H516 0 13).toInt := by rw [← e519]
            have ie520 : v503.toInt = (fZ H516 0 2).toInt := by rw [← e520]
            refine g_aload_n rfl ?_
            refine g_gfk hIH516 sm_0 rfl e519 ?_
            refine g_if_eq (fun c521 => ?_) (fun c521 => ?_)
            · refine g_aload_n rfl ?_
              refine g_invvv hIH516 sm_0 rfl rfl rfl rfl (s_174 H516 hIH516 hJH516) (fun H522 r523 => ?_)
              obtain ⟨hIH522, hJH522, w524⟩ := r523
              have e525 : v503 = fZ H522 0 2 := e520.trans w524.symm
              have ie525 : v503.toInt = (fZ H522 0 2).toInt := by rw [← e525]
              refine g_aload_n rfl ?_
              refine g_gfi hIH522 sm_0 rfl (fun v526 ev526 lv526 uv526 => ?_)
              exact g_iret ⟨_, rfl, hIH522, hJH522, (by omega)⟩
            · exfalso; omega
        · refine g_aload_n rfl ?_
          refine g_iload_n rfl ?_
          refine g_invvv hIH458 sm_0 rfl rfl rfl rfl (s_171 a2 (by omega) H458 hIH458 hJH458) (fun H527 r528 => ?_)
          obtain ⟨hIH527, hJH527, w529, p530⟩ := r528
          have iw529 : (fZ H527 0 2).toInt = (fZ H458 0 2).toInt := by rw [w529]
          refine g_goto ?_
          exact ihL459 H527 hIH527 hJH527 (mR_dn (by omega) (by omega) (by omega) p530 hmL459)
  exact L459 _ H448 hIH448 hJH448 (Nat.lt_succ_self _)
set_option maxRecDepth 4000 in
set_option maxHeartbeats 4000000 in
/-- M.text -/
theorem s_175 (a1 : Int32) (H : mzH) (hI : gI SM H) (hJ : JN H) : gCall 175 [.ref 0, .int a1] H (gRi (fun v H' => gI SM H' ∧ JN H' ∧ ((¬ (0 ≤ a1.toInt ∧ a1.toInt ≤ (fZ H 0 2).toInt) ∧ (fZ H' 0 2).toInt = (fZ H 0 2).toInt) ∨ ((0 ≤ a1.toInt ∧ a1.toInt ≤ (fZ H 0 2).toInt) ∧ (fZ H' 0 2).toInt = 0)))) := by
  obtain ⟨k0_2, ek0_2⟩ : ∃ z, z = fZ H 0 2 := ⟨_, rfl⟩
  have ik0_2 : k0_2.toInt = (fZ H 0 2).toInt := by rw [← ek0_2]
  have bk0_2 : 0 ≤ k0_2.toInt ∧ k0_2.toInt ≤ 900 := by rw [ek0_2]; exact fZ_of hI sm_0 rfl
  refine gG_call [(0, .ref 0), (1, .int a1)] ⟨rfl, rfl, trivial⟩ ?_
  show gG 2 zB_175 (mzBlk zB_175 0) [(0, .ref 0), (1, .int a1)] [] H 0 0 _
  refine g_aload_n rfl ?_
  refine g_iconst (by decide) (fun v65 kv65 => ?_)
  refine g_pfi hI sm_0 rfl (gz_any _) (fun H66 eH66 hIH66 => ?_)
  have hJH66 : JN H66 := JN_sF eH66 hJ
  have e67 : k0_2 = fZ H66 0 2 := by rw [eH66, fZ_sF_ne (by decide)]; exact ek0_2
  have ie67 : k0_2.toInt = (fZ H66 0 2).toInt := by rw [← e67]
  refine g_iload_n rfl ?_
  refine g_if_lt (fun c68 => ?_) (fun c68 => ?_)
  · refine g_bipush (by decide) (fun v69 kv69 => ?_)
    exact g_iret ⟨_, rfl, hIH66, hJH66, (by omega)⟩
  · refine g_iload_n rfl ?_
    refine g_aload_n rfl ?_
    refine g_gfk hIH66 sm_0 rfl e67 ?_
    refine g_if2_le (fun c70 => ?_) (fun c70 => ?_)
    · refine g_aload_n rfl ?_
      refine g_invvv hIH66 sm_0 rfl rfl rfl rfl (s_172 H66 hIH66 hJH66) (fun H71 r72 => ?_)
      obtain ⟨hIH71, hJH71, w73⟩ := r72
      have e74 : k0_2 = fZ H71 0 2 := e67.trans w73.symm
      have ie74 : k0_2.toInt = (fZ H71 0 2).toInt := by rw [← e74]
      refine g_aload_n rfl ?_
      refine g_iload_n rfl ?_
      refine g_iconst (by decide) (fun v75 kv75 => ?_)
      refine g_invvi hIH71 sm_0 rfl rfl rfl rfl (s_173 a1 (by omega) v75 (by omega) H71 hIH71 hJH71) (fun v78 H76 r77 => ?_)
      obtain ⟨hIH76, hJH76, p79⟩ := r77
      exact g_iret ⟨_, rfl, hIH76, hJH76, (by omega)⟩
    · refine g_nop ?_
      refine g_bipush (by decide) (fun v80 kv80 => ?_)
      exact g_iret ⟨_, rfl, hIH66, hJH66, (by omega)⟩
set_option maxRecDepth 4000 in
set_option maxHeartbeats 4000000 in
/-- M.tell -/
theorem s_176 (a1 : Int32) (H : mzH) (hI : gI SM H) (hJ : JN H) : gCall 176 [.ref 0, .int a1] H (gRi (fun v H' => gI SM H' ∧ JN H' ∧ ((¬ (0 ≤ a1.toInt ∧ a1.toInt ≤ (fZ H 0 2).toInt) ∧ (fZ H' 0 2).toInt = (fZ H 0 2).toInt) ∨ ((0 ≤ a1.toInt ∧ a1.toInt ≤ (fZ H 0 2).toInt) ∧ (fZ H' 0 2).toInt = 0)))) := by
  obtain ⟨k0_2, ek0_2⟩ : ∃ z, z = fZ H 0 2 := ⟨_, rfl⟩
  have ik0_2 : k0_2.toInt = (fZ H 0 2).toInt := by rw [← ek0_2]
  have bk0_2 : 0 ≤ k0_2.toInt ∧ k0_2.toInt ≤ 900 := by rw [ek0_2]; exact fZ_of hI sm_0 rfl
  have mk2 : ∀ i, aZ H 2 i = aZ H 2 i := fun _ => rfl
  have mk7 : ∀ i, aZ H 7 i = aZ H 7 i := fun _ => rfl
  have mk8 : ∀ i, aZ H 8 i = aZ H 8 i := fun _ => rfl
  have mk9 : ∀ i, aZ H 9 i = aZ H 9 i := fun _ => rfl
  refine gG_call [(0, .ref 0), (1, .int a1)] ⟨rfl, rfl, trivial⟩ ?_
  show gG 3 zB_176 (mzBlk zB_176 0) [(0, .ref 0), (1, .int a1)] [] H 0 0 _
  refine g_aload_n rfl ?_
  refine g_iconst (by decide) (fun v499 kv499 => ?_)
  refine g_pfi hI sm_0 rfl (gz_any _) (fun H500 eH500 hIH500 => ?_)
  have hJH500 : JN H500 := JN_sF eH500 hJ
  have e501 : k0_2 = fZ H500 0 2 := by rw [eH500, fZ_sF_ne (by decide)]; exact ek0_2
  have m502 : ∀ i, aZ H500 2 i = aZ H 2 i := fun i => (by rw [eH500, aZ_sF] : aZ H500 2 i = aZ H 2 i).trans (mk2 i)
  have m503 : ∀ i, aZ H500 7 i = aZ H 7 i := fun i => (by rw [eH500, aZ_sF] : aZ H500 7 i = aZ H 7 i).trans (mk7 i)
  have m504 : ∀ i, aZ H500 8 i = aZ H 8 i := fun i => (by rw [eH500, aZ_sF] : aZ H500 8 i = aZ H 8 i).trans (mk8 i)
  have m505 : ∀ i, aZ H500 9 i = aZ H 9 i := fun i => (by rw [eH500, aZ_sF] : aZ H500 9 i = aZ H 9 i).trans (mk9 i)
  have ie501 : k0_2.toInt = (fZ H500 0 2).toInt := by rw [← e501]
  refine g_iload_n rfl ?_
  refine g_if_lt (fun c506 => ?_) (fun c506 => ?_)
  · refine g_bipush (by decide) (fun v507 kv507 => ?_)
    exact g_iret ⟨_, rfl, hIH500, hJH500, (by omega)⟩
  · refine g_iload_n rfl ?_
    refine g_aload_n rfl ?_
    refine g_gfk hIH500 sm_0 rfl e501 ?_
    refine g_if2_le (fun c508 => ?_) (fun c508 => ?_)
    · refine g_iconst (by decide) (fun v509 kv509 => ?_)
      refine g_istore_n (l' := [(0, .ref 0), (1, .int a1), (2, .int v509)]) rfl rfl ?_
      refine g_nop ?_
      have L517 : ∀ (N : Nat) (v510 : Int32) (H511 : mzH), gI SM H511 → k0_2 = fZ H511 0 2 → (∀ i, aZ H511 2 i = aZ H 2 i) → (∀ i, aZ H511 7 i = aZ H 7 i) → (∀ i, aZ H511 8 i = aZ H 8 i) → (∀ i, aZ H511 9 i = aZ H 9 i) → (0 ≤ v510.toInt ∧ v510.toInt ≤ 369) → (∀ i, i < v510.toInt.toNat → aZ H511 3 i = aZ H 2 i) → (369 - v510.toInt).toNat < N → gG 3 zB_176 (mzBlk zB_176 3) [(0, .ref 0), (1, .int a1), (2, .int v510)] [] H511 0 0 (gRi (fun v H' => gI SM H' ∧ JN H' ∧ ((¬ (0 ≤ a1.toInt ∧ a1.toInt ≤ (fZ H 0 2).toInt) ∧ (fZ H' 0 2).toInt = (fZ H 0 2).toInt) ∨ ((0 ≤ a1.toInt ∧ a1.toInt ≤ (fZ H 0 2).toInt) ∧ (fZ H' 0 2).toInt = 0)))) := by
        intro N
        induction N with
        | zero => intro v510 H511 hIH511 e512 m513 m514 m515 m516 bv510 q1 hmL517; exact absurd hmL517 (Nat.not_lt_zero _)
        | succ N ihL517 =>
          intro v510 H511 hIH511 e512 m513 m514 m515 m516 bv510 q1 hmL517
          refine g_iload_n rfl ?_
          refine g_sipush (by decide) (fun v518 kv518 => ?_)
          refine g_if2_ge (fun c519 => ?_) (fun c519 => ?_)
          · have hJ520 : JN H511 := JN_cp3 hJ (fun i hi => q1 i (by omega)) m513
            refine g_iconst (by decide) (fun v521 kv521 => ?_)
            refine g_istore_n (l' := [(0, .ref 0), (1, .int a1), (2, .int v521)]) rfl rfl ?_
            refine g_nop ?_
            have L529 : ∀ (N : Nat) (v522 : Int32) (H523 : mzH), gI SM H523 → JN H523 → k0_2 = fZ H523 0 2 → (∀ i, aZ H523 2 i = aZ H 2 i) → (∀ i, aZ H523 7 i = aZ H 7 i) → (∀ i, aZ H523 8 i = aZ H 8 i) → (∀ i, aZ H523 9 i = aZ H 9 i) → (0 ≤ v522.toInt ∧ v522.toInt ≤ 8) → (8 - v522.toInt).toNat < N → gG 3 zB_176 (mzBlk zB_176 5) [(0, .ref 0), (1, .int a1), (2, .int v522)] [] H523 0 0 (gRi (fun v H' => gI SM H' ∧ JN H' ∧ ((¬ (0 ≤ a1.toInt ∧ a1.toInt ≤ (fZ H 0 2).toInt) ∧ (fZ H' 0 2).toInt = (fZ H 0 2).toInt) ∨ ((0 ≤ a1.toInt ∧ a1.toInt ≤ (fZ H 0 2).toInt) ∧ (fZ H' 0 2).toInt = 0)))) := by
              intro N
              induction N with
              | zero => intro v522 H523 hIH523 hJH523 e524 m525 m526 m527 m528 bv522 hmL529; exact absurd hmL529 (Nat.not_lt_zero _)
              | succ N ihL529 =>
                intro v522 H523 hIH523 hJH523 e524 m525 m526 m527 m528 bv522 hmL529
                refine g_iload_n rfl ?_
                refine g_bipush (by decide) (fun v530 kv530 => ?_)
                refine g_if2_ge (fun c531 => ?_) (fun c531 => ?_)
                · refine g_aload_n rfl ?_
                  refine g_aload_n rfl ?_
                  refine g_gfi hIH523 sm_0 rfl (fun v532 ev532 lv532 uv532 => ?_)
                  refine g_pfz hIH523 sm_0 rfl (by omega) (fun H533 eH533 hIH533 => ?_)
                  have hJH533 : JN H533 := JN_sF eH533 hJH523
                  have e534 : k0_2 = fZ H533 0 2 := by rw [eH533, fZ_sF_ne (by decide)]; exact e524
                  have m535 : ∀ i, aZ H533 2 i = aZ H 2 i := fun i => (by rw [eH533, aZ_sF] : aZ H533 2 i = aZ H523 2 i).trans (m525 i)
                  have m536 : ∀ i, aZ H533 7 i = aZ H 7 i := fun i => (by rw [eH533, aZ_sF] : aZ H533 7 i = aZ H523 7 i).trans (m526 i)
                  have m537 : ∀ i, aZ H533 8 i = aZ H 8 i := fun i => (by rw [eH533, aZ_sF] : aZ H533 8 i = aZ H523 8 i).trans (m527 i)
                  have m538 : ∀ i, aZ H533 9 i = aZ H 9 i := fun i => (by rw [eH533, aZ_sF] : aZ H533 9 i = aZ H523 9 i).trans (m528 i)
                  have ie534 : k0_2.toInt = (fZ H533 0 2).toInt := by rw [← e534]
                  refine g_aload_n rfl ?_
                  refine g_iload_n rfl ?_
                  refine g_iconst (by decide) (fun v539 kv539 => ?_)
                  refine g_invvi hIH533 sm_0 rfl rfl rfl rfl (s_173 a1 (by omega) v539 (by omega) H533 hIH533 hJH533) (fun v542 H540 r541 => ?_)
                  obtain ⟨hIH540, hJH540, p543⟩ := r541
                  exact g_iret ⟨_, rfl, hIH540, hJH540, (by omega)⟩
                · refine g_aload_n rfl ?_
                  refine g_gfr hIH523 sm_0 rfl ?_
                  refine g_iload_n rfl ?_
                  refine g_aload_n rfl ?_
                  refine g_gfr hIH523 sm_0 rfl ?_
                  refine g_iload_n rfl ?_
                  refine g_iaload hIH523 sm_5 rfl (by omega) (fun v544 ev544 lv544 uv544 => ?_)
                  refine g_iastore hIH523 sm_4 (by omega) (gz_any _) (fun H545 eH545 hIH545 => ?_)
                  have hJH545 : JN H545 := JN_sA (by decide) eH545 hJH523
                  have e546 : k0_2 = fZ H545 0 2 := by rw [eH545, fZ_sA]; exact e524
                  have m547 : ∀ i, aZ H545 2 i = aZ H 2 i := fun i => (by rw [eH545, aZ_sA_nc (by omega)] : aZ H545 2 i = aZ H523 2 i).trans (m525 i)
                  have m548 : ∀ i, aZ H545 7 i = aZ H 7 i := fun i => (by rw [eH545, aZ_sA_nc (by omega)] : aZ H545 7 i = aZ H523 7 i).trans (m526 i)
                  have m549 : ∀ i, aZ H545 8 i = aZ H 8 i := fun i => (by rw [eH545, aZ_sA_nc (by omega)] : aZ H545 8 i = aZ H523 8 i).trans (m527 i)
                  have m550 : ∀ i, aZ H545 9 i = aZ H 9 i := fun i => (by rw [eH545, aZ_sA_nc (by omega)] : aZ H545 9 i = aZ H523 9 i).trans (m528 i)
                  have ie546 : k0_2.toInt = (fZ H545 0 2).toInt := by rw [← e546]
                  refine g_iinc (l' := (fun v551 => [(0, .ref 0), (1, .int a1), (2, .int v551)])) rfl rfl (by decide) (by omega) (fun _ => rfl) (fun v551 ev551 => ?_)
                  refine g_goto ?_
                  exact ihL529 v551 H545 hIH545 hJH545 e546 m547 m548 m549 m550 (by omega) (by omega)
            exact L529 _ v521 H511 hIH511 hJ520 e512 m513 m514 m515 m516 (by omega) (Nat.lt_succ_self _)
          · refine g_aload_n rfl ?_
            refine g_gfr hIH511 sm_0 rfl ?_
            refine g_iload_n rfl ?_
            refine g_aload_n rfl ?_
            refine g_gfr hIH511 sm_0 rfl ?_
            refine g_iload_n rfl ?_
            refine g_iaload hIH511 sm_2 rfl (by omega) (fun v552 ev552 lv552 uv552 => ?_)
            refine g_iastore hIH511 sm_3 (by omega) (gz_any _) (fun H553 eH553 hIH553 => ?_)
            have e554 : k0_2 = fZ H553 0 2 := by rw [eH553, fZ_sA]; exact e512
            have m555 : ∀ i, aZ H553 2 i = aZ H 2 i := fun i => (by rw [eH553, aZ_sA_nc (by omega)] : aZ H553 2 i = aZ H511 2 i).trans (m513 i)
            have m556 : ∀ i, aZ H553 7 i = aZ H 7 i := fun i => (by rw [eH553, aZ_sA_nc (by omega)] : aZ H553 7 i = aZ H511 7 i).trans (m514 i)
            have m557 : ∀ i, aZ H553 8 i = aZ H 8 i := fun i => (by rw [eH553, aZ_sA_nc (by omega)] : aZ H553 8 i = aZ H511 8 i).trans (m515 i)
            have m558 : ∀ i, aZ H553 9 i = aZ H 9 i := fun i => (by rw [eH553, aZ_sA_nc (by omega)] : aZ H553 9 i = aZ H511 9 i).trans (m516 i)
            have ie554 : k0_2.toInt = (fZ H553 0 2).toInt := by rw [← e554]
            refine g_iinc (l' := (fun v559 => [(0, .ref 0), (1, .int a1), (2, .int v559)])) rfl rfl (by decide) (by omega) (fun _ => rfl) (fun v559 ev559 => ?_)
            refine g_goto ?_
            exact ihL517 v559 H553 hIH553 e554 m555 m556 m557 m558 (by omega) (fun q hq => by rw [eH553]; if e : v510.toInt.toNat = q then (subst e; rw [aZ_sA_eq hIH511 sm_3 (by omega), ev552, m513]) else (rw [aZ_sA_ne e]; exact q1 q (by omega))) (by omega)
      exact L517 _ v509 H500 hIH500 e501 m502 m503 m504 m505 (by omega) (fun q hq => absurd hq (by omega)) (Nat.lt_succ_self _)
    · refine g_nop ?_
      refine g_bipush (by decide) (fun v560 kv560 => ?_)
      exact g_iret ⟨_, rfl, hIH500, hJH500, (by omega)⟩
set_option maxRecDepth 4000 in
set_option maxHeartbeats 4000000 in
/-- M.fault -/
theorem s_177 (a1 : Int32) (H : mzH) (hI : gI SM H) (hJ : JN H) : gCall 177 [.ref 0, .int a1] H (gRi (fun v H' => gI SM H' ∧ JN H' ∧ fZ H' 0 2 = fZ H 0 2 ∧ kpM H H')) := by
  obtain ⟨k0_2, ek0_2⟩ : ∃ z, z = fZ H 0 2 := ⟨_, rfl⟩
  have ik0_2 : k0_2.toInt = (fZ H 0 2).toInt := by rw [← ek0_2]
  have bk0_2 : 0 ≤ k0_2.toInt ∧ k0_2.toInt ≤ 900 := by rw [ek0_2]; exact fZ_of hI sm_0 rfl
  have mkfr : kpM H H := kpM_r
  refine gG_call [(0, .ref 0), (1, .int a1)] ⟨rfl, rfl, trivial⟩ ?_
  show gG 2 zB_177 (mzBlk zB_177 0) [(0, .ref 0), (1, .int a1)] [] H 0 0 _
  refine g_aload_n rfl ?_
  refine g_iconst (by decide) (fun v41 kv41 => ?_)
  refine g_pfi hI sm_0 rfl (gz_any _) (fun H42 eH42 hIH42 => ?_)
  have hJH42 : JN H42 := JN_sF eH42 hJ
  have e43 : k0_2 = fZ H42 0 2 := by rw [eH42, fZ_sF_ne (by decide)]; exact ek0_2
  have m44 : kpM H H42 := kpM_F mkfr eH42 (by omega)
  refine g_iload_n rfl ?_
  refine g_if_ne (fun c45 => ?_) (fun c45 => ?_)
  · refine g_iload_n rfl ?_
    refine g_iconst (by decide) (fun v46 kv46 => ?_)
    refine g_if2_ne (fun c47 => ?_) (fun c47 => ?_)
    · refine g_iconst (by decide) (fun v48 kv48 => ?_)
      refine g_nop ?_
      exact g_iret ⟨_, rfl, hIH42, hJH42, (e43.symm.trans ek0_2), m44⟩
    · refine g_aload_n rfl ?_
      refine g_gfi hIH42 sm_0 rfl (fun v49 ev49 lv49 uv49 => ?_)
      refine g_goto ?_
      exact g_iret ⟨_, rfl, hIH42, hJH42, (e43.symm.trans ek0_2), m44⟩
  · refine g_aload_n rfl ?_
    refine g_gfi hIH42 sm_0 rfl (fun v50 ev50 lv50 uv50 => ?_)
    refine g_goto ?_
    exact g_iret ⟨_, rfl, hIH42, hJH42, (e43.symm.trans ek0_2), m44⟩
set_option maxRecDepth 4000 in
set_option maxHeartbeats 4000000 in
/-- M.isPlace -/
theorem s_210 (a1 : Int32) (H : mzH) (hI : gI SM H) (hJ : JN H) : gCall 210 [.ref 0, .int a1] H (gRi (fun v H' => H = H' ∧ (0 ≤ v.toInt ∧ v.toInt ≤ 1) ∧ (v.toInt = 0 ∨ (0 ≤ a1.toInt ∧ a1.toInt ≤ 7)))) := by
  refine gG_call [(0, .ref 0), (1, .int a1)] ⟨rfl, rfl, trivial⟩ ?_
  show gG 2 zB_210 (mzBlk zB_210 0) [(0, .ref 0), (1, .int a1)] [] H 0 0 _
  refine g_iload_n rfl ?_
  refine g_if_lt (fun c29 => ?_) (fun c29 => ?_)
  · refine g_iconst (by decide) (fun v30 kv30 => ?_)
    refine g_nop ?_
    exact g_zret (by omega) ⟨_, rfl, rfl, (by omega), (by omega)⟩
  · refine g_iload_n rfl ?_
    refine g_aload_n rfl ?_
    refine g_gfr hI sm_0 rfl ?_
    refine g_iconst (by decide) (fun v31 kv31 => ?_)
    refine g_iaload hI sm_2 rfl (by omega) (fun v32 ev32 lv32 uv32 => ?_)
    have qv32 := JN_n20 hJ (v := v32) (by rw [ev32, show v31.toInt.toNat = 0 from by omega])
    refine g_if2_ge (fun c33 => ?_) (fun c33 => ?_)
    · refine g_iconst (by decide) (fun v34 kv34 => ?_)
      refine g_nop ?_
      exact g_zret (by omega) ⟨_, rfl, rfl, (by omega), (by omega)⟩
    · refine g_iconst (by decide) (fun v35 kv35 => ?_)
      refine g_goto ?_
      exact g_zret (by omega) ⟨_, rfl, rfl, (by omega), (by omega)⟩
