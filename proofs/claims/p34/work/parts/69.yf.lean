set_option maxRecDepth 4000 in
set_option maxHeartbeats 4000000 in
/-- X1.become -/
theorem e_10a (H : mzH) (hI : gI SX H) (hJ : JX H) : gCall 10 [.ref 11, .ref 3] H (gRv (fun H' => gI SX H' ∧ JX H' ∧ fZ H' 1 1 = fZ H 1 1 ∧ kpN 11 18 H H' ∧ (∀ f, (f = 7 ∨ f = 8 ∨ f = 9 ∨ f = 10 ∨ f = 11 ∨ f = 12) → fZ H' 11 f = fZ H 3 f) ∧ (∀ k i, 1 ≤ k → k ≤ 7 → aZ H' (11 + k) i = aZ H (3 + k) i))) := by
  obtain ⟨k1_1, ek1_1⟩ : ∃ z, z = fZ H 1 1 := ⟨_, rfl⟩
  have ik1_1 : k1_1.toInt = (fZ H 1 1).toInt := by rw [← ek1_1]
  have bk1_1 : 0 ≤ k1_1.toInt ∧ k1_1.toInt ≤ 900 := by rw [ek1_1]; exact fZ_of hI sx_1 rfl
  obtain ⟨k3_7, ek3_7⟩ : ∃ z, z = fZ H 3 7 := ⟨_, rfl⟩
  have ik3_7 : k3_7.toInt = (fZ H 3 7).toInt := by rw [← ek3_7]
  have bk3_7 : 0 ≤ k3_7.toInt ∧ k3_7.toInt ≤ 8 := by rw [ek3_7]; exact fZ_of hI sx_3 rfl
  obtain ⟨k3_8, ek3_8⟩ : ∃ z, z = fZ H 3 8 := ⟨_, rfl⟩
  have ik3_8 : k3_8.toInt = (fZ H 3 8).toInt := by rw [← ek3_8]
  obtain ⟨k3_9, ek3_9⟩ : ∃ z, z = fZ H 3 9 := ⟨_, rfl⟩
  have ik3_9 : k3_9.toInt = (fZ H 3 9).toInt := by rw [← ek3_9]
  have bk3_9 : 0 ≤ k3_9.toInt ∧ k3_9.toInt ≤ 60 := by rw [ek3_9]; exact fZ_of hI sx_3 rfl
  obtain ⟨k3_10, ek3_10⟩ : ∃ z, z = fZ H 3 10 := ⟨_, rfl⟩
  have ik3_10 : k3_10.toInt = (fZ H 3 10).toInt := by rw [← ek3_10]
  obtain ⟨k3_11, ek3_11⟩ : ∃ z, z = fZ H 3 11 := ⟨_, rfl⟩
  have ik3_11 : k3_11.toInt = (fZ H 3 11).toInt := by rw [← ek3_11]
  obtain ⟨k3_12, ek3_12⟩ : ∃ z, z = fZ H 3 12 := ⟨_, rfl⟩
  have ik3_12 : k3_12.toInt = (fZ H 3 12).toInt := by rw [← ek3_12]
  have bk3_12 : 0 ≤ k3_12.toInt ∧ k3_12.toInt ≤ 1 := by rw [ek3_12]; exact fZ_of hI sx_3 rfl
  have mkfr : kpN 11 18 H H := kpN_r
  refine gG_call [(0, .ref 11), (1, .ref 3)] ⟨rfl, rfl, trivial⟩ ?_
  show gG 2 zB_10 (mzBlk zB_10 0) [(0, .ref 11), (1, .ref 3)] [] H 0 0 _
  refine g_aload_n rfl ?_
  refine g_gfr hI sx_3 rfl ?_
  refine g_iconst (by decide) (fun v637 kv637 => ?_)
  refine g_aload_n rfl ?_
  refine g_gfr hI sx_11 rfl ?_
  refine g_iconst (by decide) (fun v638 kv638 => ?_)
  refine g_bipush (by decide) (fun v639 kv639 => ?_)
  refine g_acp hI sx_12 sx_4 (by decide) (by decide) (by first | with_reducible assumption | omega) (by first | with_reducible assumption | omega) (by first | with_reducible assumption | omega) rfl (fun H640 eH640 hIH640 => ?_)
  have e641 : k1_1 = fZ H640 1 1 := by rw [eH640, fZ_sC hI sx_12 sx_4]; exact ek1_1
  have e642 : k3_7 = fZ H640 3 7 := by rw [eH640, fZ_sC hI sx_12 sx_4]; exact ek3_7
  have e643 : k3_8 = fZ H640 3 8 := by rw [eH640, fZ_sC hI sx_12 sx_4]; exact ek3_8
  have e644 : k3_9 = fZ H640 3 9 := by rw [eH640, fZ_sC hI sx_12 sx_4]; exact ek3_9
  have e645 : k3_10 = fZ H640 3 10 := by rw [eH640, fZ_sC hI sx_12 sx_4]; exact ek3_10
  have e646 : k3_11 = fZ H640 3 11 := by rw [eH640, fZ_sC hI sx_12 sx_4]; exact ek3_11
  have e647 : k3_12 = fZ H640 3 12 := by rw [eH640, fZ_sC hI sx_12 sx_4]; exact ek3_12
  have m648 : kpN 11 18 H H640 := kpN_C hI sx_12 sx_4 mkfr eH640 (by first | with_reducible assumption | omega)
  refine g_aload_n rfl ?_
  refine g_gfr hIH640 sx_3 rfl ?_
  refine g_iconst (by decide) (fun v649 kv649 => ?_)
  refine g_aload_n rfl ?_
  refine g_gfr hIH640 sx_11 rfl ?_
  refine g_iconst (by decide) (fun v650 kv650 => ?_)
  refine g_bipush (by decide) (fun v651 kv651 => ?_)
  refine g_acp hIH640 sx_13 sx_5 (by decide) (by decide) (by first | with_reducible assumption | omega) (by first | with_reducible assumption | omega) (by first | with_reducible assumption | omega) rfl (fun H652 eH652 hIH652 => ?_)
  have e653 : k1_1 = fZ H652 1 1 := by rw [eH652, fZ_sC hIH640 sx_13 sx_5]; exact e641
  have e654 : k3_7 = fZ H652 3 7 := by rw [eH652, fZ_sC hIH640 sx_13 sx_5]; exact e642
  have e655 : k3_8 = fZ H652 3 8 := by rw [eH652, fZ_sC hIH640 sx_13 sx_5]; exact e643
  have e656 : k3_9 = fZ H652 3 9 := by rw [eH652, fZ_sC hIH640 sx_13 sx_5]; exact e644
  have e657 : k3_10 = fZ H652 3 10 := by rw [eH652, fZ_sC hIH640 sx_13 sx_5]; exact e645
  have e658 : k3_11 = fZ H652 3 11 := by rw [eH652, fZ_sC hIH640 sx_13 sx_5]; exact e646
  have e659 : k3_12 = fZ H652 3 12 := by rw [eH652, fZ_sC hIH640 sx_13 sx_5]; exact e647
  have m660 : kpN 11 18 H H652 := kpN_C hIH640 sx_13 sx_5 m648 eH652 (by first | with_reducible assumption | omega)
  refine g_aload_n rfl ?_
  refine g_gfr hIH652 sx_3 rfl ?_
  refine g_iconst (by decide) (fun v661 kv661 => ?_)
  refine g_aload_n rfl ?_
  refine g_gfr hIH652 sx_11 rfl ?_
  refine g_iconst (by decide) (fun v662 kv662 => ?_)
  refine g_bipush (by decide) (fun v663 kv663 => ?_)
  refine g_acp hIH652 sx_14 sx_6 (by decide) (by decide) (by first | with_reducible assumption | omega) (by first | with_reducible assumption | omega) (by first | with_reducible assumption | omega) rfl (fun H664 eH664 hIH664 => ?_)
  have e665 : k1_1 = fZ H664 1 1 := by rw [eH664, fZ_sC hIH652 sx_14 sx_6]; exact e653
  have e666 : k3_7 = fZ H664 3 7 := by rw [eH664, fZ_sC hIH652 sx_14 sx_6]; exact e654
  have e667 : k3_8 = fZ H664 3 8 := by rw [eH664, fZ_sC hIH652 sx_14 sx_6]; exact e655
  have e668 : k3_9 = fZ H664 3 9 := by rw [eH664, fZ_sC hIH652 sx_14 sx_6]; exact e656
  have e669 : k3_10 = fZ H664 3 10 := by rw [eH664, fZ_sC hIH652 sx_14 sx_6]; exact e657
  have e670 : k3_11 = fZ H664 3 11 := by rw [eH664, fZ_sC hIH652 sx_14 sx_6]; exact e658
  have e671 : k3_12 = fZ H664 3 12 := by rw [eH664, fZ_sC hIH652 sx_14 sx_6]; exact e659
  have m672 : kpN 11 18 H H664 := kpN_C hIH652 sx_14 sx_6 m660 eH664 (by first | with_reducible assumption | omega)
  refine g_aload_n rfl ?_
  refine g_gfr hIH664 sx_3 rfl ?_
  refine g_iconst (by decide) (fun v673 kv673 => ?_)
  refine g_aload_n rfl ?_
  refine g_gfr hIH664 sx_11 rfl ?_
  refine g_iconst (by decide) (fun v674 kv674 => ?_)
  refine g_bipush (by decide) (fun v675 kv675 => ?_)
  refine g_acp hIH664 sx_15 sx_7 (by decide) (by decide) (by first | with_reducible assumption | omega) (by first | with_reducible assumption | omega) (by first | with_reducible assumption | omega) rfl (fun H676 eH676 hIH676 => ?_)
  have e677 : k1_1 = fZ H676 1 1 := by rw [eH676, fZ_sC hIH664 sx_15 sx_7]; exact e665
  have e678 : k3_7 = fZ H676 3 7 := by rw [eH676, fZ_sC hIH664 sx_15 sx_7]; exact e666
  have e679 : k3_8 = fZ H676 3 8 := by rw [eH676, fZ_sC hIH664 sx_15 sx_7]; exact e667
  have e680 : k3_9 = fZ H676 3 9 := by rw [eH676, fZ_sC hIH664 sx_15 sx_7]; exact e668
  have e681 : k3_10 = fZ H676 3 10 := by rw [eH676, fZ_sC hIH664 sx_15 sx_7]; exact e669
  have e682 : k3_11 = fZ H676 3 11 := by rw [eH676, fZ_sC hIH664 sx_15 sx_7]; exact e670
  have e683 : k3_12 = fZ H676 3 12 := by rw [eH676, fZ_sC hIH664 sx_15 sx_7]; exact e671
  have m684 : kpN 11 18 H H676 := kpN_C hIH664 sx_15 sx_7 m672 eH676 (by first | with_reducible assumption | omega)
  refine g_aload_n rfl ?_
  refine g_gfr hIH676 sx_3 rfl ?_
  refine g_iconst (by decide) (fun v685 kv685 => ?_)
  refine g_aload_n rfl ?_
  refine g_gfr hIH676 sx_11 rfl ?_
  refine g_iconst (by decide) (fun v686 kv686 => ?_)
  refine g_bipush (by decide) (fun v687 kv687 => ?_)
  refine g_acp hIH676 sx_16 sx_8 (by decide) (by decide) (by first | with_reducible assumption | omega) (by first | with_reducible assumption | omega) (by first | with_reducible assumption | omega) rfl (fun H688 eH688 hIH688 => ?_)
  have e689 : k1_1 = fZ H688 1 1 := by rw [eH688, fZ_sC hIH676 sx_16 sx_8]; exact e677
  have e690 : k3_7 = fZ H688 3 7 := by rw [eH688, fZ_sC hIH676 sx_16 sx_8]; exact e678
  have e691 : k3_8 = fZ H688 3 8 := by rw [eH688, fZ_sC hIH676 sx_16 sx_8]; exact e679
  have e692 : k3_9 = fZ H688 3 9 := by rw [eH688, fZ_sC hIH676 sx_16 sx_8]; exact e680
  have e693 : k3_10 = fZ H688 3 10 := by rw [eH688, fZ_sC hIH676 sx_16 sx_8]; exact e681
  have e694 : k3_11 = fZ H688 3 11 := by rw [eH688, fZ_sC hIH676 sx_16 sx_8]; exact e682
  have e695 : k3_12 = fZ H688 3 12 := by rw [eH688, fZ_sC hIH676 sx_16 sx_8]; exact e683
  have m696 : kpN 11 18 H H688 := kpN_C hIH676 sx_16 sx_8 m684 eH688 (by first | with_reducible assumption | omega)
  refine g_aload_n rfl ?_
  refine g_gfr hIH688 sx_3 rfl ?_
  refine g_iconst (by decide) (fun v697 kv697 => ?_)
  refine g_aload_n rfl ?_
  refine g_gfr hIH688 sx_11 rfl ?_
  refine g_iconst (by decide) (fun v698 kv698 => ?_)
  refine g_bipush (by decide) (fun v699 kv699 => ?_)
  refine g_acp hIH688 sx_17 sx_9 (by decide) (by decide) (by first | with_reducible assumption | omega) (by first | with_reducible assumption | omega) (by first | with_reducible assumption | omega) rfl (fun H700 eH700 hIH700 => ?_)
  have e701 : k1_1 = fZ H700 1 1 := by rw [eH700, fZ_sC hIH688 sx_17 sx_9]; exact e689
  have e702 : k3_7 = fZ H700 3 7 := by rw [eH700, fZ_sC hIH688 sx_17 sx_9]; exact e690
  have e703 : k3_8 = fZ H700 3 8 := by rw [eH700, fZ_sC hIH688 sx_17 sx_9]; exact e691
  have e704 : k3_9 = fZ H700 3 9 := by rw [eH700, fZ_sC hIH688 sx_17 sx_9]; exact e692
  have e705 : k3_10 = fZ H700 3 10 := by rw [eH700, fZ_sC hIH688 sx_17 sx_9]; exact e693
  have e706 : k3_11 = fZ H700 3 11 := by rw [eH700, fZ_sC hIH688 sx_17 sx_9]; exact e694
  have e707 : k3_12 = fZ H700 3 12 := by rw [eH700, fZ_sC hIH688 sx_17 sx_9]; exact e695
  have m708 : kpN 11 18 H H700 := kpN_C hIH688 sx_17 sx_9 m696 eH700 (by first | with_reducible assumption | omega)
  refine g_aload_n rfl ?_
  refine g_gfr hIH700 sx_3 rfl ?_
  refine g_iconst (by decide) (fun v709 kv709 => ?_)
  refine g_aload_n rfl ?_
  refine g_gfr hIH700 sx_11 rfl ?_
  refine g_iconst (by decide) (fun v710 kv710 => ?_)
  refine g_bipush (by decide) (fun v711 kv711 => ?_)
  refine g_acp hIH700 sx_18 sx_10 (by decide) (by decide) (by first | with_reducible assumption | omega) (by first | with_reducible assumption | omega) (by first | with_reducible assumption | omega) rfl (fun H712 eH712 hIH712 => ?_)
  have e713 : k1_1 = fZ H712 1 1 := by rw [eH712, fZ_sC hIH700 sx_18 sx_10]; exact e701
  have e714 : k3_7 = fZ H712 3 7 := by rw [eH712, fZ_sC hIH700 sx_18 sx_10]; exact e702
  have e715 : k3_8 = fZ H712 3 8 := by rw [eH712, fZ_sC hIH700 sx_18 sx_10]; exact e703
  have e716 : k3_9 = fZ H712 3 9 := by rw [eH712, fZ_sC hIH700 sx_18 sx_10]; exact e704
  have e717 : k3_10 = fZ H712 3 10 := by rw [eH712, fZ_sC hIH700 sx_18 sx_10]; exact e705
  have e718 : k3_11 = fZ H712 3 11 := by rw [eH712, fZ_sC hIH700 sx_18 sx_10]; exact e706
  have e719 : k3_12 = fZ H712 3 12 := by rw [eH712, fZ_sC hIH700 sx_18 sx_10]; exact e707
  have m720 : kpN 11 18 H H712 := kpN_C hIH700 sx_18 sx_10 m708 eH712 (by first | with_reducible assumption | omega)
  refine g_aload_n rfl ?_
  refine g_aload_n rfl ?_
  refine g_gfk hIH712 sx_3 rfl e714 ?_
  refine g_pfi hIH712 sx_11 rfl (by first | with_reducible assumption | omega) (fun H721 eH721 hIH721 => ?_)
  have e722 : k1_1 = fZ H721 1 1 := by rw [eH721, fZ_sF_nc (by first | with_reducible assumption | omega)]; exact e713
  have e723 : k3_7 = fZ H721 3 7 := by rw [eH721, fZ_sF_nc (by first | with_reducible assumption | omega)]; exact e714
  have e724 : k3_8 = fZ H721 3 8 := by rw [eH721, fZ_sF_nc (by first | with_reducible assumption | omega)]; exact e715
  have e725 : k3_9 = fZ H721 3 9 := by rw [eH721, fZ_sF_nc (by first | with_reducible assumption | omega)]; exact e716
  have e726 : k3_10 = fZ H721 3 10 := by rw [eH721, fZ_sF_nc (by first | with_reducible assumption | omega)]; exact e717
  have e727 : k3_11 = fZ H721 3 11 := by rw [eH721, fZ_sF_nc (by first | with_reducible assumption | omega)]; exact e718
  have e728 : k3_12 = fZ H721 3 12 := by rw [eH721, fZ_sF_nc (by first | with_reducible assumption | omega)]; exact e719
  have e729 : k3_7 = fZ H721 11 7 := by rw [eH721, fZ_sF_eq hIH712 sx_11 rfl]
  have m730 : kpN 11 18 H H721 := kpN_F m720 eH721 (by first | with_reducible assumption | omega)
  refine g_aload_n rfl ?_
  refine g_aload_n rfl ?_
  refine g_gfk hIH721 sx_3 rfl e724 ?_
  refine g_pfi hIH721 sx_11 rfl (gz_any _) (fun H731 eH731 hIH731 => ?_)
  have e732 : k1_1 = fZ H731 1 1 := by rw [eH731, fZ_sF_nc (by first | with_reducible assumption | omega)]; exact e722
  have e733 : k3_7 = fZ H731 3 7 := by rw [eH731, fZ_sF_nc (by first | with_reducible assumption | omega)]; exact e723
  have e734 : k3_8 = fZ H731 3 8 := by rw [eH731, fZ_sF_nc (by first | with_reducible assumption | omega)]; exact e724
  have e735 : k3_9 = fZ H731 3 9 := by rw [eH731, fZ_sF_nc (by first | with_reducible assumption | omega)]; exact e725
  have e736 : k3_10 = fZ H731 3 10 := by rw [eH731, fZ_sF_nc (by first | with_reducible assumption | omega)]; exact e726
  have e737 : k3_11 = fZ H731 3 11 := by rw [eH731, fZ_sF_nc (by first | with_reducible assumption | omega)]; exact e727
  have e738 : k3_12 = fZ H731 3 12 := by rw [eH731, fZ_sF_nc (by first | with_reducible assumption | omega)]; exact e728
  have e739 : k3_7 = fZ H731 11 7 := by rw [eH731, fZ_sF_ne (by decide)]; exact e729
  have e740 : k3_8 = fZ H731 11 8 := by rw [eH731, fZ_sF_eq hIH721 sx_11 rfl]
  have m741 : kpN 11 18 H H731 := kpN_F m730 eH731 (by first | with_reducible assumption | omega)
  refine g_aload_n rfl ?_
  refine g_aload_n rfl ?_
  refine g_gfk hIH731 sx_3 rfl e735 ?_
  refine g_pfi hIH731 sx_11 rfl (by first | with_reducible assumption | omega) (fun H742 eH742 hIH742 => ?_)
  have e743 : k1_1 = fZ H742 1 1 := by rw [eH742, fZ_sF_nc (by first | with_reducible assumption | omega)]; exact e732
  have e744 : k3_7 = fZ H742 3 7 := by rw [eH742, fZ_sF_nc (by first | with_reducible assumption | omega)]; exact e733
  have e745 : k3_8 = fZ H742 3 8 := by rw [eH742, fZ_sF_nc (by first | with_reducible assumption | omega)]; exact e734
  have e746 : k3_9 = fZ H742 3 9 := by rw [eH742, fZ_sF_nc (by first | with_reducible assumption | omega)]; exact e735
  have e747 : k3_10 = fZ H742 3 10 := by rw [eH742, fZ_sF_nc (by first | with_reducible assumption | omega)]; exact e736
  have e748 : k3_11 = fZ H742 3 11 := by rw [eH742, fZ_sF_nc (by first | with_reducible assumption | omega)]; exact e737
  have e749 : k3_12 = fZ H742 3 12 := by rw [eH742, fZ_sF_nc (by first | with_reducible assumption | omega)]; exact e738
  have e750 : k3_7 = fZ H742 11 7 := by rw [eH742, fZ_sF_ne (by decide)]; exact e739
  have e751 : k3_8 = fZ H742 11 8 := by rw [eH742, fZ_sF_ne (by decide)]; exact e740
  have e752 : k3_9 = fZ H742 11 9 := by rw [eH742, fZ_sF_eq hIH731 sx_11 rfl]
  have m753 : kpN 11 18 H H742 := kpN_F m741 eH742 (by first | with_reducible assumption | omega)
  refine g_aload_n rfl ?_
  refine g_aload_n rfl ?_
  refine g_gfk hIH742 sx_3 rfl e747 ?_
  refine g_pfi hIH742 sx_11 rfl (gz_any _) (fun H754 eH754 hIH754 => ?_)
  have e755 : k1_1 = fZ H754 1 1 := by rw [eH754, fZ_sF_nc (by first | with_reducible assumption | omega)]; exact e743
  have e756 : k3_7 = fZ H754 3 7 := by rw [eH754, fZ_sF_nc (by first | with_reducible assumption | omega)]; exact e744
  have e757 : k3_8 = fZ H754 3 8 := by rw [eH754, fZ_sF_nc (by first | with_reducible assumption | omega)]; exact e745
  have e758 : k3_9 = fZ H754 3 9 := by rw [eH754, fZ_sF_nc (by first | with_reducible assumption | omega)]; exact e746
  have e759 : k3_10 = fZ H754 3 10 := by rw [eH754, fZ_sF_nc (by first | with_reducible assumption | omega)]; exact e747
  have e760 : k3_11 = fZ H754 3 11 := by rw [eH754, fZ_sF_nc (by first | with_reducible assumption | omega)]; exact e748
  have e761 : k3_12 = fZ H754 3 12 := by rw [eH754, fZ_sF_nc (by first | with_reducible assumption | omega)]; exact e749
  have e762 : k3_7 = fZ H754 11 7 := by rw [eH754, fZ_sF_ne (by decide)]; exact e750
  have e763 : k3_8 = fZ H754 11 8 := by rw [eH754, fZ_sF_ne (by decide)]; exact e751
  have e764 : k3_9 = fZ H754 11 9 := by rw [eH754, fZ_sF_ne (by decide)]; exact e752
  have e765 : k3_10 = fZ H754 11 10 := by rw [eH754, fZ_sF_eq hIH742 sx_11 rfl]
  have m766 : kpN 11 18 H H754 := kpN_F m753 eH754 (by first | with_reducible assumption | omega)
  refine g_aload_n rfl ?_
  refine g_aload_n rfl ?_
  refine g_gfk hIH754 sx_3 rfl e760 ?_
  refine g_pfi hIH754 sx_11 rfl (gz_any _) (fun H767 eH767 hIH767 => ?_)
  have e768 : k1_1 = fZ H767 1 1 := by rw [eH767, fZ_sF_nc (by first | with_reducible assumption | omega)]; exact e755
  have e769 : k3_7 = fZ H767 3 7 := by rw [eH767, fZ_sF_nc (by first | with_reducible assumption | omega)]; exact e756
  have e770 : k3_8 = fZ H767 3 8 := by rw [eH767, fZ_sF_nc (by first | with_reducible assumption | omega)]; exact e757
  have e771 : k3_9 = fZ H767 3 9 := by rw [eH767, fZ_sF_nc (by first | with_reducible assumption | omega)]; exact e758
  have e772 : k3_10 = fZ H767 3 10 := by rw [eH767, fZ_sF_nc (by first | with_reducible assumption | omega)]; exact e759
  have e773 : k3_11 = fZ H767 3 11 := by rw [eH767, fZ_sF_nc (by first | with_reducible assumption | omega)]; exact e760
  have e774 : k3_12 = fZ H767 3 12 := by rw [eH767, fZ_sF_nc (by first | with_reducible assumption | omega)]; exact e761
  have e775 : k3_7 = fZ H767 11 7 := by rw [eH767, fZ_sF_ne (by decide)]; exact e762
  have e776 : k3_8 = fZ H767 11 8 := by rw [eH767, fZ_sF_ne (by decide)]; exact e763
  have e777 : k3_9 = fZ H767 11 9 := by rw [eH767, fZ_sF_ne (by decide)]; exact e764
  have e778 : k3_10 = fZ H767 11 10 := by rw [eH767, fZ_sF_ne (by decide)]; exact e765
  have e779 : k3_11 = fZ H767 11 11 := by rw [eH767, fZ_sF_eq hIH754 sx_11 rfl]
  have m780 : kpN 11 18 H H767 := kpN_F m766 eH767 (by first | with_reducible assumption | omega)
  refine g_aload_n rfl ?_
  refine g_aload_n rfl ?_
  refine g_gfk hIH767 sx_3 rfl e774 ?_
  refine g_pfz hIH767 sx_11 rfl (by first | with_reducible assumption | omega) (fun H781 eH781 hIH781 => ?_)
  have e782 : k1_1 = fZ H781 1 1 := by rw [eH781, fZ_sF_nc (by first | with_reducible assumption | omega)]; exact e768
  have e783 : k3_7 = fZ H781 3 7 := by rw [eH781, fZ_sF_nc (by first | with_reducible assumption | omega)]; exact e769
  have e784 : k3_8 = fZ H781 3 8 := by rw [eH781, fZ_sF_nc (by first | with_reducible assumption | omega)]; exact e770
  have e785 : k3_9 = fZ H781 3 9 := by rw [eH781, fZ_sF_nc (by first | with_reducible assumption | omega)]; exact e771
  have e786 : k3_10 = fZ H781 3 10 := by rw [eH781, fZ_sF_nc (by first | with_reducible assumption | omega)]; exact e772
  have e787 : k3_11 = fZ H781 3 11 := by rw [eH781, fZ_sF_nc (by first | with_reducible assumption | omega)]; exact e773
  have e788 : k3_12 = fZ H781 3 12 := by rw [eH781, fZ_sF_nc (by first | with_reducible assumption | omega)]; exact e774
  have e789 : k3_7 = fZ H781 11 7 := by rw [eH781, fZ_sF_ne (by decide)]; exact e775
  have e790 : k3_8 = fZ H781 11 8 := by rw [eH781, fZ_sF_ne (by decide)]; exact e776
  have e791 : k3_9 = fZ H781 11 9 := by rw [eH781, fZ_sF_ne (by decide)]; exact e777
  have e792 : k3_10 = fZ H781 11 10 := by rw [eH781, fZ_sF_ne (by decide)]; exact e778
  have e793 : k3_11 = fZ H781 11 11 := by rw [eH781, fZ_sF_ne (by decide)]; exact e779
  have e794 : k3_12 = fZ H781 11 12 := by rw [eH781, fZ_sF_eq hIH767 sx_11 rfl]
  have m795 : kpN 11 18 H H781 := kpN_F m780 eH781 (by first | with_reducible assumption | omega)
  exact g_ret ⟨rfl, hIH781, (JX_bec (b := 11) (d := 3) (Or.inr rfl) (Or.inl rfl) hIH664 hIH688 hJ eH640 eH652 eH664 eH676 eH688 eH700 eH712 (fun x k => by rw [eH781, aZ_sF, eH767, aZ_sF, eH754, aZ_sF, eH742, aZ_sF, eH731, aZ_sF, eH721, aZ_sF])), (e782.symm.trans ek1_1), m795, (fun f hf => by rcases hf with rfl | rfl | rfl | rfl | rfl | rfl <;> first | exact e789.symm.trans ek3_7 | exact e790.symm.trans ek3_8 | exact e791.symm.trans ek3_9 | exact e792.symm.trans ek3_10 | exact e793.symm.trans ek3_11 | exact e794.symm.trans ek3_12), (fun k i h1 h2 => match k, h1, h2 with | 1, _, _ => (by show aZ H781 12 i = aZ H 4 i; rw [eH781, aZ_sF, eH767, aZ_sF, eH754, aZ_sF, eH742, aZ_sF, eH731, aZ_sF, eH721, aZ_sF, eH712, aZ_sC_nc (by decide), eH700, aZ_sC_nc (by decide), eH688, aZ_sC_nc (by decide), eH676, aZ_sC_nc (by decide), eH664, aZ_sC_nc (by decide), eH652, aZ_sC_nc (by decide), eH640, aZ_sC_eq hI sx_12 sx_4]) | 2, _, _ => (by show aZ H781 13 i = aZ H 5 i; rw [eH781, aZ_sF, eH767, aZ_sF, eH754, aZ_sF, eH742, aZ_sF, eH731, aZ_sF, eH721, aZ_sF, eH712, aZ_sC_nc (by decide), eH700, aZ_sC_nc (by decide), eH688, aZ_sC_nc (by decide), eH676, aZ_sC_nc (by decide), eH664, aZ_sC_nc (by decide), eH652, aZ_sC_eq hIH640 sx_13 sx_5, eH640, aZ_sC_nc (by decide)]) | 3, _, _ => (by show aZ H781 14 i = aZ H 6 i; rw [eH781, aZ_sF, eH767, aZ_sF, eH754, aZ_sF, eH742, aZ_sF, eH731, aZ_sF, eH721, aZ_sF, eH712, aZ_sC_nc (by decide), eH700, aZ_sC_nc (by decide), eH688, aZ_sC_nc (by decide), eH676, aZ_sC_nc (by decide), eH664, aZ_sC_eq hIH652 sx_14 sx_6, eH652, aZ_sC_nc (by decide), eH640, aZ_sC_nc (by decide)]) | 4, _, _ => (by show aZ H781 15 i = aZ H 7 i; rw [eH781, aZ_sF, eH767, aZ_sF, eH754, aZ_sF, eH742, aZ_sF, eH731, aZ_sF, eH721, aZ_sF, eH712, aZ_sC_nc (by decide), eH700, aZ_sC_nc (by decide), eH688, aZ_sC_nc (by decide), eH676, aZ_sC_eq hIH664 sx_15 sx_7, eH664, aZ_sC_nc (by decide), eH652, aZ_sC_nc (by decide), eH640, aZ_sC_nc (by decide)]) | 5, _, _ => (by show aZ H781 16 i = aZ H 8 i; rw [eH781, aZ_sF, eH767, aZ_sF, eH754, aZ_sF, eH742, aZ_sF, eH731, aZ_sF, eH721, aZ_sF, eH712, aZ_sC_nc (by decide), eH700, aZ_sC_nc (by decide), eH688, aZ_sC_eq hIH676 sx_16 sx_8, eH676, aZ_sC_nc (by decide), eH664, aZ_sC_nc (by decide), eH652, aZ_sC_nc (by decide), eH640, aZ_sC_nc (by decide)]) | 6, _, _ => (by show aZ H781 17 i = aZ H 9 i; rw [eH781, aZ_sF, eH767, aZ_sF, eH754, aZ_sF, eH742, aZ_sF, eH731, aZ_sF, eH721, aZ_sF, eH712, aZ_sC_nc (by decide), eH700, aZ_sC_eq hIH688 sx_17 sx_9, eH688, aZ_sC_nc (by decide), eH676, aZ_sC_nc (by decide), eH664, aZ_sC_nc (by decide), eH652, aZ_sC_nc (by decide), eH640, aZ_sC_nc (by decide)]) | 7, _, _ => (by show aZ H781 18 i = aZ H 10 i; rw [eH781, aZ_sF, eH767, aZ_sF, eH754, aZ_sF, eH742, aZ_sF, eH731, aZ_sF, eH721, aZ_sF, eH712, aZ_sC_eq hIH700 sx_18 sx_10, eH700, aZ_sC_nc (by decide), eH688, aZ_sC_nc (by decide), eH676, aZ_sC_nc (by decide), eH664, aZ_sC_nc (by decide), eH652, aZ_sC_nc (by decide), eH640, aZ_sC_nc (by decide)]) | 0, h1, _ => absurd h1 (by decide) | k + 8, _, h2 => absurd h2 (by first | with_reducible assumption | omega))⟩
set_option maxRecDepth 4000 in
set_option maxHeartbeats 4000000 in
/-- X1.become -/
theorem e_10b (H : mzH) (hI : gI SX H) (hJ : JX H) : gCall 10 [.ref 3, .ref 11] H (gRv (fun H' => gI SX H' ∧ JX H' ∧ fZ H' 1 1 = fZ H 1 1 ∧ kpN 3 10 H H' ∧ (∀ f, (f = 7 ∨ f = 8 ∨ f = 9 ∨ f = 10 ∨ f = 11 ∨ f = 12) → fZ H' 3 f = fZ H 11 f) ∧ (∀ k i, 1 ≤ k → k ≤ 7 → aZ H' (3 + k) i = aZ H (11 + k) i))) := by
  obtain ⟨k1_1, ek1_1⟩ : ∃ z, z = fZ H 1 1 := ⟨_, rfl⟩
  have ik1_1 : k1_1.toInt = (fZ H 1 1).toInt := by rw [← ek1_1]
  have bk1_1 : 0 ≤ k1_1.toInt ∧ k1_1.toInt ≤ 900 := by rw [ek1_1]; exact fZ_of hI sx_1 rfl
  obtain ⟨k11_7, ek11_7⟩ : ∃ z, z = fZ H 11 7 := ⟨_, rfl⟩
  have ik11_7 : k11_7.toInt = (fZ H 11 7).toInt := by rw [← ek11_7]
  have bk11_7 : 0 ≤ k11_7.toInt ∧ k11_7.toInt ≤ 8 := by rw [ek11_7]; exact fZ_of hI sx_11 rfl
  obtain ⟨k11_8, ek11_8⟩ : ∃ z, z = fZ H 11 8 := ⟨_, rfl⟩
  have ik11_8 : k11_8.toInt = (fZ H 11 8).toInt := by rw [← ek11_8]
  obtain ⟨k11_9, ek11_9⟩ : ∃ z, z = fZ H 11 9 := ⟨_, rfl⟩
  have ik11_9 : k11_9.toInt = (fZ H 11 9).toInt := by rw [← ek11_9]
  have bk11_9 : 0 ≤ k11_9.toInt ∧ k11_9.toInt ≤ 60 := by rw [ek11_9]; exact fZ_of hI sx_11 rfl
  obtain ⟨k11_10, ek11_10⟩ : ∃ z, z = fZ H 11 10 := ⟨_, rfl⟩
  have ik11_10 : k11_10.toInt = (fZ H 11 10).toInt := by rw [← ek11_10]
  obtain ⟨k11_11, ek11_11⟩ : ∃ z, z = fZ H 11 11 := ⟨_, rfl⟩
  have ik11_11 : k11_11.toInt = (fZ H 11 11).toInt := by rw [← ek11_11]
  obtain ⟨k11_12, ek11_12⟩ : ∃ z, z = fZ H 11 12 := ⟨_, rfl⟩
  have ik11_12 : k11_12.toInt = (fZ H 11 12).toInt := by rw [← ek11_12]
  have bk11_12 : 0 ≤ k11_12.toInt ∧ k11_12.toInt ≤ 1 := by rw [ek11_12]; exact fZ_of hI sx_11 rfl
  have mkfr : kpN 3 10 H H := kpN_r
  refine gG_call [(0, .ref 3), (1, .ref 11)] ⟨rfl, rfl, trivial⟩ ?_
  show gG 2 zB_10 (mzBlk zB_10 0) [(0, .ref 3), (1, .ref 11)] [] H 0 0 _
  refine g_aload_n rfl ?_
  refine g_gfr hI sx_11 rfl ?_
  refine g_iconst (by decide) (fun v637 kv637 => ?_)
  refine g_aload_n rfl ?_
  refine g_gfr hI sx_3 rfl ?_
  refine g_iconst (by decide) (fun v638 kv638 => ?_)
  refine g_bipush (by decide) (fun v639 kv639 => ?_)
  refine g_acp hI sx_4 sx_12 (by decide) (by decide) (by first | with_reducible assumption | omega) (by first | with_reducible assumption | omega) (by first | with_reducible assumption | omega) rfl (fun H640 eH640 hIH640 => ?_)
  have e641 : k1_1 = fZ H640 1 1 := by rw [eH640, fZ_sC hI sx_4 sx_12]; exact ek1_1
  have e642 : k11_7 = fZ H640 11 7 := by rw [eH640, fZ_sC hI sx_4 sx_12]; exact ek11_7
  have e643 : k11_8 = fZ H640 11 8 := by rw [eH640, fZ_sC hI sx_4 sx_12]; exact ek11_8
  have e644 : k11_9 = fZ H640 11 9 := by rw [eH640, fZ_sC hI sx_4 sx_12]; exact ek11_9
  have e645 : k11_10 = fZ H640 11 10 := by rw [eH640, fZ_sC hI sx_4 sx_12]; exact ek11_10
  have e646 : k11_11 = fZ H640 11 11 := by rw [eH640, fZ_sC hI sx_4 sx_12]; exact ek11_11
  have e647 : k11_12 = fZ H640 11 12 := by rw [eH640, fZ_sC hI sx_4 sx_12]; exact ek11_12
  have m648 : kpN 3 10 H H640 := kpN_C hI sx_4 sx_12 mkfr eH640 (by first | with_reducible assumption | omega)
  refine g_aload_n rfl ?_
  refine g_gfr hIH640 sx_11 rfl ?_
  refine g_iconst (by decide) (fun v649 kv649 => ?_)
  refine g_aload_n rfl ?_
  refine g_gfr hIH640 sx_3 rfl ?_
  refine g_iconst (by decide) (fun v650 kv650 => ?_)
  refine g_bipush (by decide) (fun v651 kv651 => ?_)
  refine g_acp hIH640 sx_5 sx_13 (by decide) (by decide) (by first | with_reducible assumption | omega) (by first | with_reducible assumption | omega) (by first | with_reducible assumption | omega) rfl (fun H652 eH652 hIH652 => ?_)
  have e653 : k1_1 = fZ H652 1 1 := by rw [eH652, fZ_sC hIH640 sx_5 sx_13]; exact e641
  have e654 : k11_7 = fZ H652 11 7 := by rw [eH652, fZ_sC hIH640 sx_5 sx_13]; exact e642
  have e655 : k11_8 = fZ H652 11 8 := by rw [eH652, fZ_sC hIH640 sx_5 sx_13]; exact e643
  have e656 : k11_9 = fZ H652 11 9 := by rw [eH652, fZ_sC hIH640 sx_5 sx_13]; exact e644
  have e657 : k11_10 = fZ H652 11 10 := by rw [eH652, fZ_sC hIH640 sx_5 sx_13]; exact e645
  have e658 : k11_11 = fZ H652 11 11 := by rw [eH652, fZ_sC hIH640 sx_5 sx_13]; exact e646
  have e659 : k11_12 = fZ H652 11 12 := by rw [eH652, fZ_sC hIH640 sx_5 sx_13]; exact e647
  have m660 : kpN 3 10 H H652 := kpN_C hIH640 sx_5 sx_13 m648 eH652 (by first | with_reducible assumption | omega)
  refine g_aload_n rfl ?_
  refine g_gfr hIH652 sx_11 rfl ?_
  refine g_iconst (by decide) (fun v661 kv661 => ?_)
  refine g_aload_n rfl ?_
  refine g_gfr hIH652 sx_3 rfl ?_
  refine g_iconst (by decide) (fun v662 kv662 => ?_)
  refine g_bipush (by decide) (fun v663 kv663 => ?_)
  refine g_acp hIH652 sx_6 sx_14 (by decide) (by decide) (by first | with_reducible assumption | omega) (by first | with_reducible assumption | omega) (by first | with_reducible assumption | omega) rfl (fun H664 eH664 hIH664 => ?_)
  have e665 : k1_1 = fZ H664 1 1 := by rw [eH664, fZ_sC hIH652 sx_6 sx_14]; exact e653
  have e666 : k11_7 = fZ H664 11 7 := by rw [eH664, fZ_sC hIH652 sx_6 sx_14]; exact e654
  have e667 : k11_8 = fZ H664 11 8 := by rw [eH664, fZ_sC hIH652 sx_6 sx_14]; exact e655
  have e668 : k11_9 = fZ H664 11 9 := by rw [eH664, fZ_sC hIH652 sx_6 sx_14]; exact e656
  have e669 : k11_10 = fZ H664 11 10 := by rw [eH664, fZ_sC hIH652 sx_6 sx_14]; exact e657
  have e670 : k11_11 = fZ H664 11 11 := by rw [eH664, fZ_sC hIH652 sx_6 sx_14]; exact e658
  have e671 : k11_12 = fZ H664 11 12 := by rw [eH664, fZ_sC hIH652 sx_6 sx_14]; exact e659
  have m672 : kpN 3 10 H H664 := kpN_C hIH652 sx_6 sx_14 m660 eH664 (by first | with_reducible assumption | omega)
  refine g_aload_n rfl ?_
  refine g_gfr hIH664 sx_11 rfl ?_
  refine g_iconst (by decide) (fun v673 kv673 => ?_)
  refine g_aload_n rfl ?_
  refine g_gfr hIH664 sx_3 rfl ?_
  refine g_iconst (by decide) (fun v674 kv674 => ?_)
  refine g_bipush (by decide) (fun v675 kv675 => ?_)
  refine g_acp hIH664 sx_7 sx_15 (by decide) (by decide) (by first | with_reducible assumption | omega) (by first | with_reducible assumption | omega) (by first | with_reducible assumption | omega) rfl (fun H676 eH676 hIH676 => ?_)
  have e677 : k1_1 = fZ H676 1 1 := by rw [eH676, fZ_sC hIH664 sx_7 sx_15]; exact e665
  have e678 : k11_7 = fZ H676 11 7 := by rw [eH676, fZ_sC hIH664 sx_7 sx_15]; exact e666
  have e679 : k11_8 = fZ H676 11 8 := by rw [eH676, fZ_sC hIH664 sx_7 sx_15]; exact e667
  have e680 : k11_9 = fZ H676 11 9 := by rw [eH676, fZ_sC hIH664 sx_7 sx_15]; exact e668
  have e681 : k11_10 = fZ H676 11 10 := by rw [eH676, fZ_sC hIH664 sx_7 sx_15]; exact e669
  have e682 : k11_11 = fZ H676 11 11 := by rw [eH676, fZ_sC hIH664 sx_7 sx_15]; exact e670
  have e683 : k11_12 = fZ H676 11 12 := by rw [eH676, fZ_sC hIH664 sx_7 sx_15]; exact e671
  have m684 : kpN 3 10 H H676 := kpN_C hIH664 sx_7 sx_15 m672 eH676 (by first | with_reducible assumption | omega)
  refine g_aload_n rfl ?_
  refine g_gfr hIH676 sx_11 rfl ?_
  refine g_iconst (by decide) (fun v685 kv685 => ?_)
  refine g_aload_n rfl ?_
  refine g_gfr hIH676 sx_3 rfl ?_
  refine g_iconst (by decide) (fun v686 kv686 => ?_)
  refine g_bipush (by decide) (fun v687 kv687 => ?_)
  refine g_acp hIH676 sx_8 sx_16 (by decide) (by decide) (by first | with_reducible assumption | omega) (by first | with_reducible assumption | omega) (by first | with_reducible assumption | omega) rfl (fun H688 eH688 hIH688 => ?_)
  have e689 : k1_1 = fZ H688 1 1 := by rw [eH688, fZ_sC hIH676 sx_8 sx_16]; exact e677
  have e690 : k11_7 = fZ H688 11 7 := by rw [eH688, fZ_sC hIH676 sx_8 sx_16]; exact e678
  have e691 : k11_8 = fZ H688 11 8 := by rw [eH688, fZ_sC hIH676 sx_8 sx_16]; exact e679
  have e692 : k11_9 = fZ H688 11 9 := by rw [eH688, fZ_sC hIH676 sx_8 sx_16]; exact e680
  have e693 : k11_10 = fZ H688 11 10 := by rw [eH688, fZ_sC hIH676 sx_8 sx_16]; exact e681
  have e694 : k11_11 = fZ H688 11 11 := by rw [eH688, fZ_sC hIH676 sx_8 sx_16]; exact e682
  have e695 : k11_12 = fZ H688 11 12 := by rw [eH688, fZ_sC hIH676 sx_8 sx_16]; exact e683
  have m696 : kpN 3 10 H H688 := kpN_C hIH676 sx_8 sx_16 m684 eH688 (by first | with_reducible assumption | omega)
  refine g_aload_n rfl ?_
  refine g_gfr hIH688 sx_11 rfl ?_
  refine g_iconst (by decide) (fun v697 kv697 => ?_)
  refine g_aload_n rfl ?_
  refine g_gfr hIH688 sx_3 rfl ?_
  refine g_iconst (by decide) (fun v698 kv698 => ?_)
  refine g_bipush (by decide) (fun v699 kv699 => ?_)
  refine g_acp hIH688 sx_9 sx_17 (by decide) (by decide) (by first | with_reducible assumption | omega) (by first | with_reducible assumption | omega) (by first | with_reducible assumption | omega) rfl (fun H700 eH700 hIH700 => ?_)
  have e701 : k1_1 = fZ H700 1 1 := by rw [eH700, fZ_sC hIH688 sx_9 sx_17]; exact e689
  have e702 : k11_7 = fZ H700 11 7 := by rw [eH700, fZ_sC hIH688 sx_9 sx_17]; exact e690
  have e703 : k11_8 = fZ H700 11 8 := by rw [eH700, fZ_sC hIH688 sx_9 sx_17]; exact e691
  have e704 : k11_9 = fZ H700 11 9 := by rw [eH700, fZ_sC hIH688 sx_9 sx_17]; exact e692
  have e705 : k11_10 = fZ H700 11 10 := by rw [eH700, fZ_sC hIH688 sx_9 sx_17]; exact e693
  have e706 : k11_11 = fZ H700 11 11 := by rw [eH700, fZ_sC hIH688 sx_9 sx_17]; exact e694
  have e707 : k11_12 = fZ H700 11 12 := by rw [eH700, fZ_sC hIH688 sx_9 sx_17]; exact e695
  have m708 : kpN 3 10 H H700 := kpN_C hIH688 sx_9 sx_17 m696 eH700 (by first | with_reducible assumption | omega)
  refine g_aload_n rfl ?_
  refine g_gfr hIH700 sx_11 rfl ?_
  refine g_iconst (by decide) (fun v709 kv709 => ?_)
  refine g_aload_n rfl ?_
  refine g_gfr hIH700 sx_3 rfl ?_
  refine g_iconst (by decide) (fun v710 kv710 => ?_)
  refine g_bipush (by decide) (fun v711 kv711 => ?_)
  refine g_acp hIH700 sx_10 sx_18 (by decide) (by decide) (by first | with_reducible assumption | omega) (by first | with_reducible assumption | omega) (by first | with_reducible assumption | omega) rfl (fun H712 eH712 hIH712 => ?_)
  have e713 : k1_1 = fZ H712 1 1 := by rw [eH712, fZ_sC hIH700 sx_10 sx_18]; exact e701
  have e714 : k11_7 = fZ H712 11 7 := by rw [eH712, fZ_sC hIH700 sx_10 sx_18]; exact e702
  have e715 : k11_8 = fZ H712 11 8 := by rw [eH712, fZ_sC hIH700 sx_10 sx_18]; exact e703
  have e716 : k11_9 = fZ H712 11 9 := by rw [eH712, fZ_sC hIH700 sx_10 sx_18]; exact e704
  have e717 : k11_10 = fZ H712 11 10 := by rw [eH712, fZ_sC hIH700 sx_10 sx_18]; exact e705
  have e718 : k11_11 = fZ H712 11 11 := by rw [eH712, fZ_sC hIH700 sx_10 sx_18]; exact e706
  have e719 : k11_12 = fZ H712 11 12 := by rw [eH712, fZ_sC hIH700 sx_10 sx_18]; exact e707
  have m720 : kpN 3 10 H H712 := kpN_C hIH700 sx_10 sx_18 m708 eH712 (by first | with_reducible assumption | omega)
  refine g_aload_n rfl ?_
  refine g_aload_n rfl ?_
  refine g_gfk hIH712 sx_11 rfl e714 ?_
  refine g_pfi hIH712 sx_3 rfl (by first | with_reducible assumption | omega) (fun H721 eH721 hIH721 => ?_)
  have e722 : k1_1 = fZ H721 1 1 := by rw [eH721, fZ_sF_nc (by first | with_reducible assumption | omega)]; exact e713
  have e723 : k11_7 = fZ H721 11 7 := by rw [eH721, fZ_sF_nc (by first | with_reducible assumption | omega)]; exact e714
  have e724 : k11_8 = fZ H721 11 8 := by rw [eH721, fZ_sF_nc (by first | with_reducible assumption | omega)]; exact e715
  have e725 : k11_9 = fZ H721 11 9 := by rw [eH721, fZ_sF_nc (by first | with_reducible assumption | omega)]; exact e716
  have e726 : k11_10 = fZ H721 11 10 := by rw [eH721, fZ_sF_nc (by first | with_reducible assumption | omega)]; exact e717
  have e727 : k11_11 = fZ H721 11 11 := by rw [eH721, fZ_sF_nc (by first | with_reducible assumption | omega)]; exact e718
  have e728 : k11_12 = fZ H721 11 12 := by rw [eH721, fZ_sF_nc (by first | with_reducible assumption | omega)]; exact e719
  have e729 : k11_7 = fZ H721 3 7 := by rw [eH721, fZ_sF_eq hIH712 sx_3 rfl]
  have m730 : kpN 3 10 H H721 := kpN_F m720 eH721 (by first | with_reducible assumption | omega)
  refine g_aload_n rfl ?_
  refine g_aload_n rfl ?_
  refine g_gfk hIH721 sx_11 rfl e724 ?_
  refine g_pfi hIH721 sx_3 rfl (gz_any _) (fun H731 eH731 hIH731 => ?_)
  have e732 : k1_1 = fZ H731 1 1 := by rw [eH731, fZ_sF_nc (by first | with_reducible assumption | omega)]; exact e722
  have e733 : k11_7 = fZ H731 11 7 := by rw [eH731, fZ_sF_nc (by first | with_reducible assumption | omega)]; exact e723
  have e734 : k11_8 = fZ H731 11 8 := by rw [eH731, fZ_sF_nc (by first | with_reducible assumption | omega)]; exact e724
  have e735 : k11_9 = fZ H731 11 9 := by rw [eH731, fZ_sF_nc (by first | with_reducible assumption | omega)]; exact e725
  have e736 : k11_10 = fZ H731 11 10 := by rw [eH731, fZ_sF_nc (by first | with_reducible assumption | omega)]; exact e726
  have e737 : k11_11 = fZ H731 11 11 := by rw [eH731, fZ_sF_nc (by first | with_reducible assumption | omega)]; exact e727
  have e738 : k11_12 = fZ H731 11 12 := by rw [eH731, fZ_sF_nc (by first | with_reducible assumption | omega)]; exact e728
  have e739 : k11_7 = fZ H731 3 7 := by rw [eH731, fZ_sF_ne (by decide)]; exact e729
  have e740 : k11_8 = fZ H731 3 8 := by rw [eH731, fZ_sF_eq hIH721 sx_3 rfl]
  have m741 : kpN 3 10 H H731 := kpN_F m730 eH731 (by first | with_reducible assumption | omega)
  refine g_aload_n rfl ?_
  refine g_aload_n rfl ?_
  refine g_gfk hIH731 sx_11 rfl e735 ?_
  refine g_pfi hIH731 sx_3 rfl (by first | with_reducible assumption | omega) (fun H742 eH742 hIH742 => ?_)
  have e743 : k1_1 = fZ H742 1 1 := by rw [eH742, fZ_sF_nc (by first | with_reducible assumption | omega)]; exact e732
  have e744 : k11_7 = fZ H742 11 7 := by rw [eH742, fZ_sF_nc (by first | with_reducible assumption | omega)]; exact e733
  have e745 : k11_8 = fZ H742 11 8 := by rw [eH742, fZ_sF_nc (by first | with_reducible assumption | omega)]; exact e734
  have e746 : k11_9 = fZ H742 11 9 := by rw [eH742, fZ_sF_nc (by first | with_reducible assumption | omega)]; exact e735
  have e747 : k11_10 = fZ H742 11 10 := by rw [eH742, fZ_sF_nc (by first | with_reducible assumption | omega)]; exact e736
  have e748 : k11_11 = fZ H742 11 11 := by rw [eH742, fZ_sF_nc (by first | with_reducible assumption | omega)]; exact e737
  have e749 : k11_12 = fZ H742 11 12 := by rw [eH742, fZ_sF_nc (by first | with_reducible assumption | omega)]; exact e738
  have e750 : k11_7 = fZ H742 3 7 := by rw [eH742, fZ_sF_ne (by decide)]; exact e739
  have e751 : k11_8 = fZ H742 3 8 := by rw [eH742, fZ_sF_ne (by decide)]; exact e740
  have e752 : k11_9 = fZ H742 3 9 := by rw [eH742, fZ_sF_eq hIH731 sx_3 rfl]
  have m753 : kpN 3 10 H H742 := kpN_F m741 eH742 (by first | with_reducible assumption | omega)
  refine g_aload_n rfl ?_
  refine g_aload_n rfl ?_
  refine g_gfk hIH742 sx_11 rfl e747 ?_
  refine g_pfi hIH742 sx_3 rfl (gz_any _) (fun H754 eH754 hIH754 => ?_)
  have e755 : k1_1 = fZ H754 1 1 := by rw [eH754, fZ_sF_nc (by first | with_reducible assumption | omega)]; exact e743
  have e756 : k11_7 = fZ H754 11 7 := by rw [eH754, fZ_sF_nc (by first | with_reducible assumption | omega)]; exact e744
  have e757 : k11_8 = fZ H754 11 8 := by rw [eH754, fZ_sF_nc (by first | with_reducible assumption | omega)]; exact e745
  have e758 : k11_9 = fZ H754 11 9 := by rw [eH754, fZ_sF_nc (by first | with_reducible assumption | omega)]; exact e746
  have e759 : k11_10 = fZ H754 11 10 := by rw [eH754, fZ_sF_nc (by first | with_reducible assumption | omega)]; exact e747
  have e760 : k11_11 = fZ H754 11 11 := by rw [eH754, fZ_sF_nc (by first | with_reducible assumption | omega)]; exact e748
  have e761 : k11_12 = fZ H754 11 12 := by rw [eH754, fZ_sF_nc (by first | with_reducible assumption | omega)]; exact e749
  have e762 : k11_7 = fZ H754 3 7 := by rw [eH754, fZ_sF_ne (by decide)]; exact e750
  have e763 : k11_8 = fZ H754 3 8 := by rw [eH754, fZ_sF_ne (by decide)]; exact e751
  have e764 : k11_9 = fZ H754 3 9 := by rw [eH754, fZ_sF_ne (by decide)]; exact e752
  have e765 : k11_10 = fZ H754 3 10 := by rw [eH754, fZ_sF_eq hIH742 sx_3 rfl]
  have m766 : kpN 3 10 H H754 := kpN_F m753 eH754 (by first | with_reducible assumption | omega)
  refine g_aload_n rfl ?_
  refine g_aload_n rfl ?_
  refine g_gfk hIH754 sx_11 rfl e760 ?_
  refine g_pfi hIH754 sx_3 rfl (gz_any _) (fun H767 eH767 hIH767 => ?_)
  have e768 : k1_1 = fZ H767 1 1 := by rw [eH767, fZ_sF_nc (by first | with_reducible assumption | omega)]; exact e755
  have e769 : k11_7 = fZ H767 11 7 := by rw [eH767, fZ_sF_nc (by first | with_reducible assumption | omega)]; exact e756
  have e770 : k11_8 = fZ H767 11 8 := by rw [eH767, fZ_sF_nc (by first | with_reducible assumption | omega)]; exact e757
  have e771 : k11_9 = fZ H767 11 9 := by rw [eH767, fZ_sF_nc (by first | with_reducible assumption | omega)]; exact e758
  have e772 : k11_10 = fZ H767 11 10 := by rw [eH767, fZ_sF_nc (by first | with_reducible assumption | omega)]; exact e759
  have e773 : k11_11 = fZ H767 11 11 := by rw [eH767, fZ_sF_nc (by first | with_reducible assumption | omega)]; exact e760
  have e774 : k11_12 = fZ H767 11 12 := by rw [eH767, fZ_sF_nc (by first | with_reducible assumption | omega)]; exact e761
  have e775 : k11_7 = fZ H767 3 7 := by rw [eH767, fZ_sF_ne (by decide)]; exact e762
  have e776 : k11_8 = fZ H767 3 8 := by rw [eH767, fZ_sF_ne (by decide)]; exact e763
  have e777 : k11_9 = fZ H767 3 9 := by rw [eH767, fZ_sF_ne (by decide)]; exact e764
  have e778 : k11_10 = fZ H767 3 10 := by rw [eH767, fZ_sF_ne (by decide)]; exact e765
  have e779 : k11_11 = fZ H767 3 11 := by rw [eH767, fZ_sF_eq hIH754 sx_3 rfl]
  have m780 : kpN 3 10 H H767 := kpN_F m766 eH767 (by first | with_reducible assumption | omega)
  refine g_aload_n rfl ?_
  refine g_aload_n rfl ?_
  refine g_gfk hIH767 sx_11 rfl e774 ?_
  refine g_pfz hIH767 sx_3 rfl (by first | with_reducible assumption | omega) (fun H781 eH781 hIH781 => ?_)
  have e782 : k1_1 = fZ H781 1 1 := by rw [eH781, fZ_sF_nc (by first | with_reducible assumption | omega)]; exact e768
  have e783 : k11_7 = fZ H781 11 7 := by rw [eH781, fZ_sF_nc (by first | with_reducible assumption | omega)]; exact e769
  have e784 : k11_8 = fZ H781 11 8 := by rw [eH781, fZ_sF_nc (by first | with_reducible assumption | omega)]; exact e770
  have e785 : k11_9 = fZ H781 11 9 := by rw [eH781, fZ_sF_nc (by first | with_reducible assumption | omega)]; exact e771
  have e786 : k11_10 = fZ H781 11 10 := by rw [eH781, fZ_sF_nc (by first | with_reducible assumption | omega)]; exact e772
  have e787 : k11_11 = fZ H781 11 11 := by rw [eH781, fZ_sF_nc (by first | with_reducible assumption | omega)]; exact e773
  have e788 : k11_12 = fZ H781 11 12 := by rw [eH781, fZ_sF_nc (by first | with_reducible assumption | omega)]; exact e774
  have e789 : k11_7 = fZ H781 3 7 := by rw [eH781, fZ_sF_ne (by decide)]; exact e775
  have e790 : k11_8 = fZ H781 3 8 := by rw [eH781, fZ_sF_ne (by decide)]; exact e776
  have e791 : k11_9 = fZ H781 3 9 := by rw [eH781, fZ_sF_ne (by decide)]; exact e777
  have e792 : k11_10 = fZ H781 3 10 := by rw [eH781, fZ_sF_ne (by decide)]; exact e778
  have e793 : k11_11 = fZ H781 3 11 := by rw [eH781, fZ_sF_ne (by decide)]; exact e779
  have e794 : k11_12 = fZ H781 3 12 := by rw [eH781, fZ_sF_eq hIH767 sx_3 rfl]
  have m795 : kpN 3 10 H H781 := kpN_F m780 eH781 (by first | with_reducible assumption | omega)
  exact g_ret ⟨rfl, hIH781, (JX_bec (b := 3) (d := 11) (Or.inl rfl) (Or.inr rfl) hIH664 hIH688 hJ eH640 eH652 eH664 eH676 eH688 eH700 eH712 (fun x k => by rw [eH781, aZ_sF, eH767, aZ_sF, eH754, aZ_sF, eH742, aZ_sF, eH731, aZ_sF, eH721, aZ_sF])), (e782.symm.trans ek1_1), m795, (fun f hf => by rcases hf with rfl | rfl | rfl | rfl | rfl | rfl <;> first | exact e789.symm.trans ek11_7 | exact e790.symm.trans ek11_8 | exact e791.symm.trans ek11_9 | exact e792.symm.trans ek11_10 | exact e793.symm.trans ek11_11 | exact e794.symm.trans ek11_12), (fun k i h1 h2 => match k, h1, h2 with | 1, _, _ => (by show aZ H781 4 i = aZ H 12 i; rw [eH781, aZ_sF, eH767, aZ_sF, eH754, aZ_sF, eH742, aZ_sF, eH731, aZ_sF, eH721, aZ_sF, eH712, aZ_sC_nc (by decide), eH700, aZ_sC_nc (by decide), eH688, aZ_sC_nc (by decide), eH676, aZ_sC_nc (by decide), eH664, aZ_sC_nc (by decide), eH652, aZ_sC_nc (by decide), eH640, aZ_sC_eq hI sx_4 sx_12]) | 2, _, _ => (by show aZ H781 5 i = aZ H 13 i; rw [eH781, aZ_sF, eH767, aZ_sF, eH754, aZ_sF, eH742, aZ_sF, eH731, aZ_sF, eH721, aZ_sF, eH712, aZ_sC_nc (by decide), eH700, aZ_sC_nc (by decide), eH688, aZ_sC_nc (by decide), eH676, aZ_sC_nc (by decide), eH664, aZ_sC_nc (by decide), eH652, aZ_sC_eq hIH640 sx_5 sx_13, eH640, aZ_sC_nc (by decide)]) | 3, _, _ => (by show aZ H781 6 i = aZ H 14 i; rw [eH781, aZ_sF, eH767, aZ_sF, eH754, aZ_sF, eH742, aZ_sF, eH731, aZ_sF, eH721, aZ_sF, eH712, aZ_sC_nc (by decide), eH700, aZ_sC_nc (by decide), eH688, aZ_sC_nc (by decide), eH676, aZ_sC_nc (by decide), eH664, aZ_sC_eq hIH652 sx_6 sx_14, eH652, aZ_sC_nc (by decide), eH640, aZ_sC_nc (by decide)]) | 4, _, _ => (by show aZ H781 7 i = aZ H 15 i; rw [eH781, aZ_sF, eH767, aZ_sF, eH754, aZ_sF, eH742, aZ_sF, eH731, aZ_sF, eH721, aZ_sF, eH712, aZ_sC_nc (by decide), eH700, aZ_sC_nc (by decide), eH688, aZ_sC_nc (by decide), eH676, aZ_sC_eq hIH664 sx_7 sx_15, eH664, aZ_sC_nc (by decide), eH652, aZ_sC_nc (by decide), eH640, aZ_sC_nc (by decide)]) | 5, _, _ => (by show aZ H781 8 i = aZ H 16 i; rw [eH781, aZ_sF, eH767, aZ_sF, eH754, aZ_sF, eH742, aZ_sF, eH731, aZ_sF, eH721, aZ_sF, eH712, aZ_sC_nc (by decide), eH700, aZ_sC_nc (by decide), eH688, aZ_sC_eq hIH676 sx_8 sx_16, eH676, aZ_sC_nc (by decide), eH664, aZ_sC_nc (by decide), eH652, aZ_sC_nc (by decide), eH640, aZ_sC_nc (by decide)]) | 6, _, _ => (by show aZ H781 9 i = aZ H 17 i; rw [eH781, aZ_sF, eH767, aZ_sF, eH754, aZ_sF, eH742, aZ_sF, eH731, aZ_sF, eH721, aZ_sF, eH712, aZ_sC_nc (by decide), eH700, aZ_sC_eq hIH688 sx_9 sx_17, eH688, aZ_sC_nc (by decide), eH676, aZ_sC_nc (by decide), eH664, aZ_sC_nc (by decide), eH652, aZ_sC_nc (by decide), eH640, aZ_sC_nc (by decide)]) | 7, _, _ => (by show aZ H781 10 i = aZ H 18 i; rw [eH781, aZ_sF, eH767, aZ_sF, eH754, aZ_sF, eH742, aZ_sF, eH731, aZ_sF, eH721, aZ_sF, eH712, aZ_sC_eq hIH700 sx_10 sx_18, eH700, aZ_sC_nc (by decide), eH688, aZ_sC_nc (by decide), eH676, aZ_sC_nc (by decide), eH664, aZ_sC_nc (by decide), eH652, aZ_sC_nc (by decide), eH640, aZ_sC_nc (by decide)]) | 0, h1, _ => absurd h1 (by decide) | k + 8, _, h2 => absurd h2 (by first | with_reducible assumption | omega))⟩
def kpC (H B : mzH) : Prop := ∀ c, ((3 ≤ c ∧ c ≤ 10) ∨ (25 ≤ c ∧ c ≤ 27) ∨ c = 42) → (∀ f, fZ B c f = fZ H c f) ∧ (∀ i, aZ B c i = aZ H c i)
theorem bkX_cp {a b : Nat} {H B : mzH} {c : pB} (hf : ∀ f, (f = 7 ∨ f = 8 ∨ f = 9 ∨ f = 10 ∨ f = 11 ∨ f = 12) → fZ B b f = fZ H a f) (ha : ∀ k i, 1 ≤ k → k ≤ 7 → aZ B (b + k) i = aZ H (a + k) i) (h : bkX H a c) : bkX B b c := by
  obtain ⟨g1, g2, g3, g4, g5, g6, g7, g9, g10⟩ := h
  refine ⟨?_, ?_, ?_, ?_, ?_, ?_, fun p hp => ?_, fun k hk => ?_, g10⟩
  · rw [hf 7 (by decide)]; exact g1
  · rw [hf 8 (by decide)]; exact g2
  · rw [hf 9 (by decide)]; exact g3
  · rw [hf 10 (by decide)]; exact g4
  · rw [hf 11 (by decide)]; exact g5
  · rw [hf 12 (by decide)]; exact g6
  · rw [ha 1 p (by decide) (by decide)]; exact g7 p hp
  · rw [ha 3 k (by decide) (by decide), ha 4 k (by decide) (by decide), ha 5 k (by decide) (by decide), ha 6 k (by decide) (by decide), ha 7 k (by decide) (by decide)]; exact g9 k hk
/-- without the ways -/
theorem bkX_nw {b : Nat} {H B : mzH} {c : pB} (hf : ∀ f, fZ B b f = fZ H b f) (ha : ∀ k i, 1 ≤ k → k ≤ 7 → k ≠ 2 → aZ B (b + k) i = aZ H (b + k) i) (h : bkX H b c) : bkX B b c := by
  obtain ⟨g1, g2, g3, g4, g5, g6, g7, g9, g10⟩ := h
  refine ⟨?_, ?_, ?_, ?_, ?_, ?_, fun p hp => ?_, fun k hk => ?_, g10⟩
  · rw [hf]; exact g1
  · rw [hf]; exact g2
  · rw [hf]; exact g3
  · rw [hf]; exact g4
  · rw [hf]; exact g5
  · rw [hf]; exact g6
  · rw [ha 1 p (by decide) (by decide) (by decide)]; exact g7 p hp
  · rw [ha 3 k (by decide) (by decide) (by decide), ha 4 k (by decide) (by decide) (by decide), ha 5 k (by decide) (by decide) (by decide), ha 6 k (by decide) (by decide) (by decide), ha 7 k (by decide) (by decide) (by decide)]; exact g9 k hk
/-- what closing comes to -/
def clE (H B : mzH) (s : Int) (b : pB) (v : Int32) : Prop := fZ B 19 5 = fZ H 19 5 ∧ fZ B 19 6 = fZ H 19 6 ∧ ((s = 0 ∧ v.toInt = -1 ∧ kpC H B) ∨ (s ≠ 0 ∧ v = fZ H 19 7 ∧ bkX B 3 b))
theorem cl_mk {H H1 H2 H3 H4 H5 : mzH} {b : pB} {s : Int} {u v : Int32} (hs : s ≠ 0) (hb : bkX H 11 b) (e1 : H1 = sF H 1 1 u) (k2 : kpN 13 13 H1 H2) (c1 : ∀ f, (f = 7 ∨ f = 8 ∨ f = 9 ∨ f = 10 ∨ f = 11 ∨ f = 12) → fZ H3 3 f = fZ H2 11 f) (c2 : ∀ k i, 1 ≤ k → k ≤ 7 → aZ H3 (3 + k) i = aZ H2 (11 + k) i) (k3 : kpN 3 10 H2 H3) (k4 : kpB H3 H4) (k5 : kpB H4 H5) (hv : v = fZ H5 19 7) : clE H H5 s b v := by
  have x19 : ∀ f, fZ H5 19 f = fZ H 19 f := fun f => by
    rw [(k5 19 (by decide)).1, (k4 19 (by decide)).1, (k3 19 (by decide)).1, (k2 19 (by decide)).1, e1, fZ_sF_nc (by decide)]
  have b1 : bkX H1 11 b := bkX_nw (fun f => by rw [e1, fZ_sF_nc (by decide)]) (fun k i _ _ _ => by rw [e1, aZ_sF]) hb
  have b2 : bkX H2 11 b := bkX_nw (fun f => (k2 11 (by decide)).1 f) (fun k i _ _ h => (k2 (11 + k) (by first | with_reducible assumption | omega)).2 i) b1
  have b3 : bkX H3 3 b := bkX_cp c1 c2 b2
  have k := kpB_t k4 k5
  have b5 : bkX H5 3 b := bkX_nw (fun f => (k 3 (by decide)).1 f) (fun q i _ _ _ => (k (3 + q) (by first | with_reducible assumption | omega)).2 i) b3
  exact ⟨x19 5, x19 6, Or.inr ⟨hs, by rw [hv, x19], b5⟩⟩
/-- nothing told -/
theorem bk_0x {H : mzH} {c : pB} (e : c = pB0) (h0 : (fZ H 11 7).toInt = 0) (h1 : (fZ H 11 8).toInt = 0) (h2 : (fZ H 11 9).toInt = 0) (h3 : (fZ H 11 10).toInt = 10) (h4 : (fZ H 11 11).toInt = 10) (h5 : (fZ H 11 12).toInt = 0) : bkX H 11 c := by
  subst e
  refine ⟨h0, h1, h2, h3, h4, h5, fun p hp => ?_, fun k hk => ?_, ?_⟩
  · have hp : (p : Int) < 0 := hp
    omega
  · have hk : (k : Int) < 0 := hk
    omega
  · show (0 : Int) ≤ 0 ∧ (0 : Int) ≤ 12
    decide
/-- what reading comes to -/
def rdY (H B : mzH) (a1 a2 : Int32) (b : pB) (v : Int32) : Prop := ∃ (T : pT) (k : Nat), tkA (bX H) a1.toInt.toNat T.K T.S T.V T.M ∧ pGoes a2.toInt T b k ∧ pStop T (pIt a2.toInt T k b).2 ∧ (fZ B 19 5).toInt = (pIt a2.toInt T k b).2.f ∧ (fZ B 19 6).toInt = (pIt a2.toInt T k b).2.p ∧ bkX B 11 (pIt a2.toInt T k b).1 ∧ (fZ B 19 7).toInt = (k : Int) ∧ frE H B ∧ ((v.toInt = 1 ∧ (pIt a2.toInt T k b).2.f = 0) ∨ (v.toInt = 0 ∧ (pIt a2.toInt T k b).2.f ≠ 0))
/-- what a text comes to -/
def txX (H B : mzH) (n : Nat) (told : Int) (c : pB) (v : Int32) : Prop := ∃ (T : pT) (k : Nat), tkA (bX H) n T.K T.S T.V T.M ∧ pGoes told T c k ∧ pStop T (pIt told T k c).2 ∧ (fZ B 1 1).toInt = 0 ∧ (fZ B 19 5).toInt = (pIt told T k c).2.f ∧ (fZ B 19 6).toInt = (pIt told T k c).2.p ∧ (((pIt told T k c).2.f ≠ 0 ∧ v.toInt = -1 ∧ kpC H B) ∨ ((pIt told T k c).2.f = 0 ∧ v.toInt = (k : Int) ∧ bkX B 3 (pIt told T k c).1))
set_option maxRecDepth 4000 in
set_option maxHeartbeats 4000000 in
/-- X9.text -/
theorem e_114a (a1 : Int32) (H : mzH) (hI : gI SX H) (hJ : JX H) (hp0 : ¬ (0 ≤ a1.toInt ∧ a1.toInt ≤ (fZ H 1 1).toInt)) : gCall 114 [.ref 0, .int a1] H (gRi (fun v H' => gI SX H' ∧ JX H' ∧ H' = H ∧ v.toInt = -2)) := by
  obtain ⟨k1_1, ek1_1⟩ : ∃ z, z = fZ H 1 1 := ⟨_, rfl⟩
  have ik1_1 : k1_1.toInt = (fZ H 1 1).toInt := by rw [← ek1_1]
  have bk1_1 : 0 ≤ k1_1.toInt ∧ k1_1.toInt ≤ 900 := by rw [ek1_1]; exact fZ_of hI sx_1 rfl
  refine gG_call [(0, .ref 0), (1, .int a1)] ⟨rfl, rfl, trivial⟩ ?_
  show gG 3 zB_114 (mzBlk zB_114 0) [(0, .ref 0), (1, .int a1)] [] H 0 0 _
  refine g_iload_n rfl ?_
  refine g_if_lt (fun c17 => ?_) (fun c17 => ?_)
  · refine g_bipush (by decide) (fun v18 kv18 => ?_)
    exact g_iret ⟨_, rfl, hI, hJ, rfl, (by first | with_reducible assumption | omega)⟩
  · refine g_iload_n rfl ?_
    refine g_aload_n rfl ?_
    refine g_gfr hI sx_0 rfl ?_
    refine g_gfk hI sx_1 rfl ek1_1 ?_
    refine g_if2_le (fun c19 => ?_) (fun c19 => ?_)
    · exfalso; omega
    · refine g_nop ?_
      refine g_bipush (by decide) (fun v20 kv20 => ?_)
      exact g_iret ⟨_, rfl, hI, hJ, rfl, (by first | with_reducible assumption | omega)⟩
set_option maxRecDepth 4000 in
set_option maxHeartbeats 4000000 in
/-- X9.tell -/
theorem e_115a (a1 : Int32) (H : mzH) (hI : gI SX H) (hJ : JX H) (hp0 : ¬ (0 ≤ a1.toInt ∧ a1.toInt ≤ (fZ H 1 1).toInt)) : gCall 115 [.ref 0, .int a1] H (gRi (fun v H' => gI SX H' ∧ JX H' ∧ H' = H ∧ v.toInt = -2)) := by
  obtain ⟨k1_1, ek1_1⟩ : ∃ z, z = fZ H 1 1 := ⟨_, rfl⟩
  have ik1_1 : k1_1.toInt = (fZ H 1 1).toInt := by rw [← ek1_1]
  have bk1_1 : 0 ≤ k1_1.toInt ∧ k1_1.toInt ≤ 900 := by rw [ek1_1]; exact fZ_of hI sx_1 rfl
  refine gG_call [(0, .ref 0), (1, .int a1)] ⟨rfl, rfl, trivial⟩ ?_
  show gG 3 zB_115 (mzBlk zB_115 0) [(0, .ref 0), (1, .int a1)] [] H 0 0 _
  refine g_iload_n rfl ?_
  refine g_if_lt (fun c17 => ?_) (fun c17 => ?_)
  · refine g_bipush (by decide) (fun v18 kv18 => ?_)
    exact g_iret ⟨_, rfl, hI, hJ, rfl, (by first | with_reducible assumption | omega)⟩
  · refine g_iload_n rfl ?_
    refine g_aload_n rfl ?_
    refine g_gfr hI sx_0 rfl ?_
    refine g_gfk hI sx_1 rfl ek1_1 ?_
    refine g_if2_le (fun c19 => ?_) (fun c19 => ?_)
    · exfalso; omega
    · refine g_nop ?_
      refine g_bipush (by decide) (fun v20 kv20 => ?_)
      exact g_iret ⟨_, rfl, hI, hJ, rfl, (by first | with_reducible assumption | omega)⟩
