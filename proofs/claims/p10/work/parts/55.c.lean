set_option maxRecDepth 4000 in
set_option maxHeartbeats 4000000 in
/-- X7.add -/
theorem s_74 (a1 : Int32) (a2 : Int32) (H : mzH) (hI : gI SX H) (hJ : JX H) : gCall 74 [.ref 20, .int a1, .int a2] H (gRv (fun H' => gI SX H' ∧ JX H' ∧ fZ H' 1 1 = fZ H 1 1)) := by
  obtain ⟨k1_1, ek1_1⟩ : ∃ z, z = fZ H 1 1 := ⟨_, rfl⟩
  have ik1_1 : k1_1.toInt = (fZ H 1 1).toInt := by rw [← ek1_1]
  have bk1_1 : 0 ≤ k1_1.toInt ∧ k1_1.toInt ≤ 900 := by rw [ek1_1]; exact fZ_of hI sx_1 rfl
  refine gG_call [(0, .ref 20), (1, .int a1), (2, .int a2)] ⟨rfl, rfl, rfl, trivial⟩ ?_
  show gG 3 zB_74 (mzBlk zB_74 0) [(0, .ref 20), (1, .int a1), (2, .int a2)] [] H 0 0 _
  refine g_aload_n rfl ?_
  refine g_gfi hI sx_20 rfl (fun v73 ev73 lv73 uv73 => ?_)
  have iev73 : v73.toInt = (fZ H 20 4).toInt := by rw [← ev73]
  refine g_aload_n rfl ?_
  refine g_gfr hI sx_20 rfl ?_
  refine g_len hI sx_21 (by decide) (fun v74 kv74 => ?_)
  refine g_if2_ge (fun c75 => ?_) (fun c75 => ?_)
  · exact g_ret ⟨rfl, hI, hJ, (ek1_1.symm.trans ek1_1)⟩
  · refine g_aload_n rfl ?_
    refine g_gfr hI sx_20 rfl ?_
    refine g_aload_n rfl ?_
    refine g_gfk hI sx_20 rfl ev73 ?_
    refine g_iload_n rfl ?_
    refine g_iastore hI sx_21 (by omega) (gz_any _) (fun H76 eH76 hIH76 => ?_)
    have hJH76 : JX H76 := JX_sA (by omega) eH76 hJ
    have e77 : k1_1 = fZ H76 1 1 := by rw [eH76, fZ_sA]; exact ek1_1
    have e78 : v73 = fZ H76 20 4 := by rw [eH76, fZ_sA]; exact ev73
    have ie78 : v73.toInt = (fZ H76 20 4).toInt := by rw [← e78]
    refine g_aload_n rfl ?_
    refine g_gfr hIH76 sx_20 rfl ?_
    refine g_aload_n rfl ?_
    refine g_gfk hIH76 sx_20 rfl e78 ?_
    refine g_iload_n rfl ?_
    refine g_iastore hIH76 sx_22 (by omega) (gz_any _) (fun H79 eH79 hIH79 => ?_)
    have hJH79 : JX H79 := JX_sA (by omega) eH79 hJH76
    have e80 : k1_1 = fZ H79 1 1 := by rw [eH79, fZ_sA]; exact e77
    have e81 : v73 = fZ H79 20 4 := by rw [eH79, fZ_sA]; exact e78
    have ie81 : v73.toInt = (fZ H79 20 4).toInt := by rw [← e81]
    refine g_aload_n rfl ?_
    refine g_gfr hIH79 sx_20 rfl ?_
    refine g_aload_n rfl ?_
    refine g_gfk hIH79 sx_20 rfl e81 ?_
    refine g_aload_n rfl ?_
    refine g_gfi hIH79 sx_20 rfl (fun v82 ev82 lv82 uv82 => ?_)
    refine g_iastore hIH79 sx_23 (by omega) (gz_any _) (fun H83 eH83 hIH83 => ?_)
    have hJH83 : JX H83 := JX_sA (by omega) eH83 hJH79
    have e84 : k1_1 = fZ H83 1 1 := by rw [eH83, fZ_sA]; exact e80
    have e85 : v73 = fZ H83 20 4 := by rw [eH83, fZ_sA]; exact e81
    have ie85 : v73.toInt = (fZ H83 20 4).toInt := by rw [← e85]
    refine g_aload_n rfl ?_
    refine g_dup rfl ?_
    refine g_gfk hIH83 sx_20 rfl e85 ?_
    refine g_iconst (by decide) (fun v86 kv86 => ?_)
    refine g_iadd (by omega) (fun v87 ev87 => ?_)
    refine g_pfi hIH83 sx_20 rfl (by omega) (fun H88 eH88 hIH88 => ?_)
    have hJH88 : JX H88 := JX_sF eH88 hJH83
    have e89 : k1_1 = fZ H88 1 1 := by rw [eH88, fZ_sF_nc (by omega)]; exact e84
    have e90 : v87 = fZ H88 20 4 := by rw [eH88, fZ_sF_eq hIH83 sx_20 rfl]
    have ie90 : v87.toInt = (fZ H88 20 4).toInt := by rw [← e90]
    refine g_nop ?_
    exact g_ret ⟨rfl, hIH88, hJH88, (e89.symm.trans ek1_1)⟩
set_option maxRecDepth 4000 in
set_option maxHeartbeats 4000000 in
/-- X7.cut -/
theorem s_73 (a1 : Int32) (H : mzH) (hI : gI SX H) (hJ : JX H) : gCall 73 [.ref 20, .int a1] H (gRv (fun H' => gI SX H' ∧ JX H' ∧ fZ H' 1 1 = fZ H 1 1)) := by
  obtain ⟨k1_1, ek1_1⟩ : ∃ z, z = fZ H 1 1 := ⟨_, rfl⟩
  have ik1_1 : k1_1.toInt = (fZ H 1 1).toInt := by rw [← ek1_1]
  have bk1_1 : 0 ≤ k1_1.toInt ∧ k1_1.toInt ≤ 900 := by rw [ek1_1]; exact fZ_of hI sx_1 rfl
  refine gG_call [(0, .ref 20), (1, .int a1)] ⟨rfl, rfl, trivial⟩ ?_
  show gG 5 zB_73 (mzBlk zB_73 0) [(0, .ref 20), (1, .int a1)] [] H 0 0 _
  refine g_aload_n rfl ?_
  refine g_iconst (by decide) (fun v845 kv845 => ?_)
  refine g_iload_n rfl ?_
  refine g_aload_n rfl ?_
  refine g_gfr hI sx_20 rfl ?_
  refine g_gfk hI sx_1 rfl ek1_1 ?_
  refine g_min rfl (fun v846 av846 bv846 dv846 => ?_)
  refine g_max rfl (fun v847 av847 bv847 dv847 => ?_)
  refine g_pfi hI sx_20 rfl (by omega) (fun H848 eH848 hIH848 => ?_)
  have hJH848 : JX H848 := JX_sF eH848 hJ
  have e849 : k1_1 = fZ H848 1 1 := by rw [eH848, fZ_sF_nc (by omega)]; exact ek1_1
  have e850 : v847 = fZ H848 20 5 := by rw [eH848, fZ_sF_eq hI sx_20 rfl]
  have jj851_6 : (fZ H848 20 6).toInt = (fZ H 20 6).toInt := by rw [eH848, fZ_sF_ne (by decide)]
  have ie850 : v847.toInt = (fZ H848 20 5).toInt := by rw [← e850]
  refine g_aload_n rfl ?_
  refine g_iconst (by decide) (fun v852 kv852 => ?_)
  refine g_pfi hIH848 sx_20 rfl (by omega) (fun H853 eH853 hIH853 => ?_)
  have hJH853 : JX H853 := JX_sF eH853 hJH848
  have e854 : k1_1 = fZ H853 1 1 := by rw [eH853, fZ_sF_nc (by omega)]; exact e849
  have e855 : v847 = fZ H853 20 5 := by rw [eH853, fZ_sF_ne (by decide)]; exact e850
  have e856 : v852 = fZ H853 20 6 := by rw [eH853, fZ_sF_eq hIH848 sx_20 rfl]
  have ie855 : v847.toInt = (fZ H853 20 5).toInt := by rw [← e855]
  have ie856 : v852.toInt = (fZ H853 20 6).toInt := by rw [← e856]
  refine g_aload_n rfl ?_
  refine g_iconst (by decide) (fun v857 kv857 => ?_)
  refine g_pfi hIH853 sx_20 rfl (by omega) (fun H858 eH858 hIH858 => ?_)
  have hJH858 : JX H858 := JX_sF eH858 hJH853
  have e859 : k1_1 = fZ H858 1 1 := by rw [eH858, fZ_sF_nc (by omega)]; exact e854
  have e860 : v847 = fZ H858 20 5 := by rw [eH858, fZ_sF_ne (by decide)]; exact e855
  have e861 : v852 = fZ H858 20 6 := by rw [eH858, fZ_sF_ne (by decide)]; exact e856
  have ie860 : v847.toInt = (fZ H858 20 5).toInt := by rw [← e860]
  have ie861 : v852.toInt = (fZ H858 20 6).toInt := by rw [← e861]
  refine g_aload_n rfl ?_
  refine g_invvv hIH858 sx_20 rfl rfl rfl rfl (s_75 H858 hIH858 hJH858) (fun H862 r863 => ?_)
  obtain ⟨hIH862, hJH862, w864⟩ := r863
  have e865 : k1_1 = fZ H862 1 1 := e859.trans w864.symm
  refine g_iconst (by decide) (fun v866 kv866 => ?_)
  refine g_istore_n (l' := [(0, .ref 20), (1, .int a1), (2, .int v866)]) rfl rfl ?_
  refine g_nop ?_
  have L870 : ∀ (N : Nat) (v867 : Int32) (H868 : mzH), gI SX H868 → JX H868 → k1_1 = fZ H868 1 1 → (0 ≤ v867.toInt ∧ v867.toInt ≤ 900) → (900 - v867.toInt).toNat < N → gG 5 zB_73 (mzBlk zB_73 1) [(0, .ref 20), (1, .int a1), (2, .int v867)] [] H868 0 0 (gRv (fun H' => gI SX H' ∧ JX H' ∧ fZ H' 1 1 = fZ H 1 1)) := by
    intro N
    induction N with
    | zero => intro v867 H868 hIH868 hJH868 e869 bv867 hmL870; exact absurd hmL870 (Nat.not_lt_zero _)
    | succ N ihL870 =>
      intro v867 H868 hIH868 hJH868 e869 bv867 hmL870
      refine g_iload_n rfl ?_
      refine g_sipush (by decide) (fun v871 kv871 => ?_)
      refine g_if2_ge (fun c872 => ?_) (fun c872 => ?_)
      · refine g_aload_n rfl ?_
        refine g_iconst (by decide) (fun v873 kv873 => ?_)
        refine g_pfi hIH868 sx_20 rfl (gz_any _) (fun H874 eH874 hIH874 => ?_)
        have hJH874 : JX H874 := JX_sF eH874 hJH868
        have e875 : k1_1 = fZ H874 1 1 := by rw [eH874, fZ_sF_nc (by omega)]; exact e869
        have jj876_6 : (fZ H874 20 6).toInt = (fZ H868 20 6).toInt := by rw [eH874, fZ_sF_ne (by decide)]
        have jj877_5 : (fZ H874 20 5).toInt = (fZ H868 20 5).toInt := by rw [eH874, fZ_sF_ne (by decide)]
        refine g_aload_n rfl ?_
        refine g_bipush (by decide) (fun v878 kv878 => ?_)
        refine g_aload_n rfl ?_
        refine g_gfi hIH874 sx_20 rfl (fun v879 ev879 lv879 uv879 => ?_)
        have iev879 : v879.toInt = (fZ H874 20 5).toInt := by rw [← ev879]
        refine g_invvv hIH874 sx_20 rfl rfl rfl rfl (s_74 v878 v879 H874 hIH874 hJH874) (fun H880 r881 => ?_)
        obtain ⟨hIH880, hJH880, w882⟩ := r881
        have e883 : k1_1 = fZ H880 1 1 := e875.trans w882.symm
        exact g_ret ⟨rfl, hIH880, hJH880, (e883.symm.trans ek1_1)⟩
      · refine g_aload_n rfl ?_
        refine g_gfi hIH868 sx_20 rfl (fun v884 ev884 lv884 uv884 => ?_)
        have iev884 : v884.toInt = (fZ H868 20 6).toInt := by rw [← ev884]
        refine g_aload_n rfl ?_
        refine g_gfi hIH868 sx_20 rfl (fun v885 ev885 lv885 uv885 => ?_)
        have iev885 : v885.toInt = (fZ H868 20 5).toInt := by rw [← ev885]
        refine g_if2_ge (fun c886 => ?_) (fun c886 => ?_)
        · refine g_aload_n rfl ?_
          refine g_iconst (by decide) (fun v887 kv887 => ?_)
          refine g_pfi hIH868 sx_20 rfl (gz_any _) (fun H888 eH888 hIH888 => ?_)
          have hJH888 : JX H888 := JX_sF eH888 hJH868
          have e889 : k1_1 = fZ H888 1 1 := by rw [eH888, fZ_sF_nc (by omega)]; exact e869
          have e890 : v884 = fZ H888 20 6 := by rw [eH888, fZ_sF_ne (by decide)]; exact ev884
          have e891 : v885 = fZ H888 20 5 := by rw [eH888, fZ_sF_ne (by decide)]; exact ev885
          have ie890 : v884.toInt = (fZ H888 20 6).toInt := by rw [← e890]
          have ie891 : v885.toInt = (fZ H888 20 5).toInt := by rw [← e891]
          refine g_aload_n rfl ?_
          refine g_bipush (by decide) (fun v892 kv892 => ?_)
          refine g_aload_n rfl ?_
          refine g_gfk hIH888 sx_20 rfl e891 ?_
          refine g_invvv hIH888 sx_20 rfl rfl rfl rfl (s_74 v892 v885 H888 hIH888 hJH888) (fun H893 r894 => ?_)
          obtain ⟨hIH893, hJH893, w895⟩ := r894
          have e896 : k1_1 = fZ H893 1 1 := e889.trans w895.symm
          exact g_ret ⟨rfl, hIH893, hJH893, (e896.symm.trans ek1_1)⟩
        · refine g_aload_n rfl ?_
          refine g_gfk hIH868 sx_20 rfl ev884 ?_
          refine g_istore_n (l' := [(0, .ref 20), (1, .int a1), (2, .int v867), (3, .int v884)]) rfl rfl ?_
          refine g_aload_n rfl ?_
          refine g_iconst (by decide) (fun v897 kv897 => ?_)
          refine g_pfi hIH868 sx_20 rfl (gz_any _) (fun H898 eH898 hIH898 => ?_)
          have hJH898 : JX H898 := JX_sF eH898 hJH868
          have e899 : k1_1 = fZ H898 1 1 := by rw [eH898, fZ_sF_nc (by omega)]; exact e869
          have e900 : v884 = fZ H898 20 6 := by rw [eH898, fZ_sF_ne (by decide)]; exact ev884
          have e901 : v885 = fZ H898 20 5 := by rw [eH898, fZ_sF_ne (by decide)]; exact ev885
          have ie900 : v884.toInt = (fZ H898 20 6).toInt := by rw [← e900]
          have ie901 : v885.toInt = (fZ H898 20 5).toInt := by rw [← e901]
          refine g_aload_n rfl ?_
          refine g_invvi hIH898 sx_20 rfl rfl rfl rfl (s_76 H898 hIH898 hJH898 (by omega)) (fun v904 H902 r903 => ?_)
          obtain ⟨hIH902, hJH902, w905⟩ := r903
          have e906 : k1_1 = fZ H902 1 1 := e899.trans w905.symm
          refine g_istore (l' := [(0, .ref 20), (1, .int a1), (2, .int v867), (3, .int v884), (4, .int v904)]) rfl rfl ?_
          refine g_aload_n rfl ?_
          refine g_iload rfl ?_
          refine g_iload_n rfl ?_
          refine g_invvv hIH902 sx_20 rfl rfl rfl rfl (s_74 v904 v884 H902 hIH902 hJH902) (fun H907 r908 => ?_)
          obtain ⟨hIH907, hJH907, w909⟩ := r908
          have e910 : k1_1 = fZ H907 1 1 := e906.trans w909.symm
          refine g_aload_n rfl ?_
          refine g_invvv hIH907 sx_20 rfl rfl rfl rfl (s_75 H907 hIH907 hJH907) (fun H911 r912 => ?_)
          obtain ⟨hIH911, hJH911, w913⟩ := r912
          have e914 : k1_1 = fZ H911 1 1 := e910.trans w913.symm
          refine g_iinc (l' := (fun v915 => [(0, .ref 20), (1, .int a1), (2, .int v915), (3, .int v884), (4, .int v904)])) rfl rfl (by decide) (by omega) (fun _ => rfl) (fun v915 ev915 => ?_)
          refine g_goto ?_
          refine gG_pick [0, 1, 2] (l' := [(0, .ref 20), (1, .int a1), (2, .int v915)]) rfl ?_
          exact ihL870 v915 H911 hIH911 hJH911 e914 (by omega) (by omega)
  exact L870 _ v866 H862 hIH862 hJH862 e865 (by omega) (Nat.lt_succ_self _)
set_option maxRecDepth 4000 in
set_option maxHeartbeats 4000000 in
/-- X4.goTo -/
theorem s_39 (a1 : Int32) (ha1 : 0 ≤ a1.toInt ∧ a1.toInt ≤ 901) (H : mzH) (hI : gI SX H) (hJ : JX H) : gCall 39 [.ref 19, .int a1] H (gRv (fun H' => gI SX H' ∧ JX H' ∧ fZ H' 1 1 = fZ H 1 1 ∧ fZ H' 19 7 = fZ H 19 7 ∧ fZ H' 19 5 = fZ H 19 5)) := by
  obtain ⟨k1_1, ek1_1⟩ : ∃ z, z = fZ H 1 1 := ⟨_, rfl⟩
  have ik1_1 : k1_1.toInt = (fZ H 1 1).toInt := by rw [← ek1_1]
  have bk1_1 : 0 ≤ k1_1.toInt ∧ k1_1.toInt ≤ 900 := by rw [ek1_1]; exact fZ_of hI sx_1 rfl
  obtain ⟨k19_7, ek19_7⟩ : ∃ z, z = fZ H 19 7 := ⟨_, rfl⟩
  have ik19_7 : k19_7.toInt = (fZ H 19 7).toInt := by rw [← ek19_7]
  obtain ⟨k19_5, ek19_5⟩ : ∃ z, z = fZ H 19 5 := ⟨_, rfl⟩
  have ik19_5 : k19_5.toInt = (fZ H 19 5).toInt := by rw [← ek19_5]
  refine gG_call [(0, .ref 19), (1, .int a1)] ⟨rfl, rfl, trivial⟩ ?_
  show gG 2 zB_39 (mzBlk zB_39 0) [(0, .ref 19), (1, .int a1)] [] H 0 0 _
  refine g_iload_n rfl ?_
  refine g_aload_n rfl ?_
  refine g_gfr hI sx_19 rfl ?_
  refine g_gfi hI sx_20 rfl (fun v65 ev65 lv65 uv65 => ?_)
  refine g_if2_ge (fun c66 => ?_) (fun c66 => ?_)
  · exact g_ret ⟨rfl, hI, hJ, (ek1_1.symm.trans ek1_1), (ek19_7.symm.trans ek19_7), (ek19_5.symm.trans ek19_5)⟩
  · refine g_aload_n rfl ?_
    refine g_iload_n rfl ?_
    refine g_pfi hI sx_19 rfl (by omega) (fun H67 eH67 hIH67 => ?_)
    have hJH67 : JX H67 := JX_sF eH67 hJ
    have e68 : k1_1 = fZ H67 1 1 := by rw [eH67, fZ_sF_nc (by omega)]; exact ek1_1
    have e69 : k19_7 = fZ H67 19 7 := by rw [eH67, fZ_sF_ne (by decide)]; exact ek19_7
    have e70 : k19_5 = fZ H67 19 5 := by rw [eH67, fZ_sF_ne (by decide)]; exact ek19_5
    have ie69 : k19_7.toInt = (fZ H67 19 7).toInt := by rw [← e69]
    have ie70 : k19_5.toInt = (fZ H67 19 5).toInt := by rw [← e70]
    refine g_aload_n rfl ?_
    refine g_aload_n rfl ?_
    refine g_gfr hIH67 sx_19 rfl ?_
    refine g_gfr hIH67 sx_20 rfl ?_
    refine g_iload_n rfl ?_
    refine g_iaload hIH67 sx_21 rfl (by omega) (fun v71 ev71 lv71 uv71 => ?_)
    refine g_pfi hIH67 sx_19 rfl (gz_any _) (fun H72 eH72 hIH72 => ?_)
    have hJH72 : JX H72 := JX_sF eH72 hJH67
    have e73 : k1_1 = fZ H72 1 1 := by rw [eH72, fZ_sF_nc (by omega)]; exact e68
    have e74 : k19_7 = fZ H72 19 7 := by rw [eH72, fZ_sF_ne (by decide)]; exact e69
    have e75 : k19_5 = fZ H72 19 5 := by rw [eH72, fZ_sF_ne (by decide)]; exact e70
    have ie74 : k19_7.toInt = (fZ H72 19 7).toInt := by rw [← e74]
    have ie75 : k19_5.toInt = (fZ H72 19 5).toInt := by rw [← e75]
    refine g_aload_n rfl ?_
    refine g_aload_n rfl ?_
    refine g_gfr hIH72 sx_19 rfl ?_
    refine g_gfr hIH72 sx_20 rfl ?_
    refine g_iload_n rfl ?_
    refine g_iaload hIH72 sx_23 rfl (by omega) (fun v76 ev76 lv76 uv76 => ?_)
    refine g_pfi hIH72 sx_19 rfl (gz_any _) (fun H77 eH77 hIH77 => ?_)
    have hJH77 : JX H77 := JX_sF eH77 hJH72
    have e78 : k1_1 = fZ H77 1 1 := by rw [eH77, fZ_sF_nc (by omega)]; exact e73
    have e79 : k19_7 = fZ H77 19 7 := by rw [eH77, fZ_sF_ne (by decide)]; exact e74
    have e80 : k19_5 = fZ H77 19 5 := by rw [eH77, fZ_sF_ne (by decide)]; exact e75
    have ie79 : k19_7.toInt = (fZ H77 19 7).toInt := by rw [← e79]
    have ie80 : k19_5.toInt = (fZ H77 19 5).toInt := by rw [← e80]
    refine g_nop ?_
    exact g_ret ⟨rfl, hIH77, hJH77, (e78.symm.trans ek1_1), (e79.symm.trans ek19_7), (e80.symm.trans ek19_5)⟩
set_option maxRecDepth 4000 in
set_option maxHeartbeats 4000000 in
/-- X4.fail -/
theorem s_40 (a1 : Int32) (ha1 : 1 ≤ a1.toInt ∧ a1.toInt ≤ 3) (H : mzH) (hI : gI SX H) (hJ : JX H) : gCall 40 [.ref 19, .int a1] H (gRv (fun H' => gI SX H' ∧ JX H' ∧ fZ H' 1 1 = fZ H 1 1 ∧ fZ H' 19 7 = fZ H 19 7 ∧ ¬ (fZ H' 19 5).toInt = 0)) := by
  obtain ⟨k1_1, ek1_1⟩ : ∃ z, z = fZ H 1 1 := ⟨_, rfl⟩
  have ik1_1 : k1_1.toInt = (fZ H 1 1).toInt := by rw [← ek1_1]
  have bk1_1 : 0 ≤ k1_1.toInt ∧ k1_1.toInt ≤ 900 := by rw [ek1_1]; exact fZ_of hI sx_1 rfl
  obtain ⟨k19_7, ek19_7⟩ : ∃ z, z = fZ H 19 7 := ⟨_, rfl⟩
  have ik19_7 : k19_7.toInt = (fZ H 19 7).toInt := by rw [← ek19_7]
  obtain ⟨k19_5, ek19_5⟩ : ∃ z, z = fZ H 19 5 := ⟨_, rfl⟩
  have ik19_5 : k19_5.toInt = (fZ H 19 5).toInt := by rw [← ek19_5]
  refine gG_call [(0, .ref 19), (1, .int a1)] ⟨rfl, rfl, trivial⟩ ?_
  show gG 2 zB_40 (mzBlk zB_40 0) [(0, .ref 19), (1, .int a1)] [] H 0 0 _
  refine g_aload_n rfl ?_
  refine g_gfk hI sx_19 rfl ek19_5 ?_
  refine g_if_ne (fun c53 => ?_) (fun c53 => ?_)
  · exact g_ret ⟨rfl, hI, hJ, (ek1_1.symm.trans ek1_1), (ek19_7.symm.trans ek19_7), (by omega)⟩
  · refine g_aload_n rfl ?_
    refine g_iload_n rfl ?_
    refine g_pfi hI sx_19 rfl (gz_any _) (fun H54 eH54 hIH54 => ?_)
    have hJH54 : JX H54 := JX_sF eH54 hJ
    have e55 : k1_1 = fZ H54 1 1 := by rw [eH54, fZ_sF_nc (by omega)]; exact ek1_1
    have e56 : k19_7 = fZ H54 19 7 := by rw [eH54, fZ_sF_ne (by decide)]; exact ek19_7
    have e57 : a1 = fZ H54 19 5 := by rw [eH54, fZ_sF_eq hI sx_19 rfl]
    have jj58_3 : (fZ H54 19 3).toInt = (fZ H 19 3).toInt := by rw [eH54, fZ_sF_ne (by decide)]
    have ie56 : k19_7.toInt = (fZ H54 19 7).toInt := by rw [← e56]
    have ie57 : a1.toInt = (fZ H54 19 5).toInt := by rw [← e57]
    refine g_aload_n rfl ?_
    refine g_aload_n rfl ?_
    refine g_gfr hIH54 sx_19 rfl ?_
    refine g_gfr hIH54 sx_20 rfl ?_
    refine g_aload_n rfl ?_
    refine g_gfi hIH54 sx_19 rfl (fun v59 ev59 lv59 uv59 => ?_)
    refine g_iaload hIH54 sx_22 rfl (by omega) (fun v60 ev60 lv60 uv60 => ?_)
    refine g_pfi hIH54 sx_19 rfl (gz_any _) (fun H61 eH61 hIH61 => ?_)
    have hJH61 : JX H61 := JX_sF eH61 hJH54
    have e62 : k1_1 = fZ H61 1 1 := by rw [eH61, fZ_sF_nc (by omega)]; exact e55
    have e63 : k19_7 = fZ H61 19 7 := by rw [eH61, fZ_sF_ne (by decide)]; exact e56
    have e64 : a1 = fZ H61 19 5 := by rw [eH61, fZ_sF_ne (by decide)]; exact e57
    have jj65_3 : (fZ H61 19 3).toInt = (fZ H54 19 3).toInt := by rw [eH61, fZ_sF_ne (by decide)]
    have ie63 : k19_7.toInt = (fZ H61 19 7).toInt := by rw [← e63]
    have ie64 : a1.toInt = (fZ H61 19 5).toInt := by rw [← e64]
    refine g_nop ?_
    exact g_ret ⟨rfl, hIH61, hJH61, (e62.symm.trans ek1_1), (e63.symm.trans ek19_7), (by omega)⟩
set_option maxRecDepth 4000 in
set_option maxHeartbeats 4000000 in
/-- X4.take -/
theorem s_50 (a1 : Int32) (a2 : Int32) (H : mzH) (hI : gI SX H) (hJ : JX H) (hp0 : a1.toInt ≤ a2.toInt) : gCall 50 [.ref 19, .int a1, .int a2] H (gRi (fun v H' => gI SX H' ∧ JX H' ∧ fZ H' 1 1 = fZ H 1 1 ∧ fZ H' 19 7 = fZ H 19 7 ∧ (a1.toInt ≤ v.toInt ∧ v.toInt ≤ a2.toInt) ∧ ((fZ H' 19 5).toInt = 0 → ((fZ H 19 5).toInt = 0 ∧ a1.toInt ≤ (fZ H 19 3).toInt ∧ (fZ H 19 3).toInt ≤ a2.toInt)))) := by
  obtain ⟨k1_1, ek1_1⟩ : ∃ z, z = fZ H 1 1 := ⟨_, rfl⟩
  have ik1_1 : k1_1.toInt = (fZ H 1 1).toInt := by rw [← ek1_1]
  have bk1_1 : 0 ≤ k1_1.toInt ∧ k1_1.toInt ≤ 900 := by rw [ek1_1]; exact fZ_of hI sx_1 rfl
  obtain ⟨k19_7, ek19_7⟩ : ∃ z, z = fZ H 19 7 := ⟨_, rfl⟩
  have ik19_7 : k19_7.toInt = (fZ H 19 7).toInt := by rw [← ek19_7]
  obtain ⟨k19_5, ek19_5⟩ : ∃ z, z = fZ H 19 5 := ⟨_, rfl⟩
  have ik19_5 : k19_5.toInt = (fZ H 19 5).toInt := by rw [← ek19_5]
  obtain ⟨k19_3, ek19_3⟩ : ∃ z, z = fZ H 19 3 := ⟨_, rfl⟩
  have ik19_3 : k19_3.toInt = (fZ H 19 3).toInt := by rw [← ek19_3]
  refine gG_call [(0, .ref 19), (1, .int a1), (2, .int a2)] ⟨rfl, rfl, rfl, trivial⟩ ?_
  show gG 4 zB_50 (mzBlk zB_50 0) [(0, .ref 19), (1, .int a1), (2, .int a2)] [] H 0 0 _
  refine g_aload_n rfl ?_
  refine g_gfk hI sx_19 rfl ek19_3 ?_
  refine g_istore_n (l' := [(0, .ref 19), (1, .int a1), (2, .int a2), (3, .int k19_3)]) rfl rfl ?_
  refine g_iload_n rfl ?_
  refine g_iload_n rfl ?_
  refine g_if2_lt (fun c225 => ?_) (fun c225 => ?_)
  · refine g_aload_n rfl ?_
    refine g_iconst (by decide) (fun v226 kv226 => ?_)
    refine g_invvv hI sx_19 rfl rfl rfl rfl (s_40 v226 (by omega) H hI hJ) (fun H227 r228 => ?_)
    obtain ⟨hIH227, hJH227, w229, w230, p231⟩ := r228
    have e232 : k1_1 = fZ H227 1 1 := ek1_1.trans w229.symm
    have e233 : k19_7 = fZ H227 19 7 := ek19_7.trans w230.symm
    have ie233 : k19_7.toInt = (fZ H227 19 7).toInt := by rw [← e233]
    refine g_nop ?_
    refine g_aload_n rfl ?_
    refine g_gfi hIH227 sx_19 rfl (fun v234 ev234 lv234 uv234 => ?_)
    have iev234 : v234.toInt = (fZ H227 19 5).toInt := by rw [← ev234]
    refine g_if_eq (fun c235 => ?_) (fun c235 => ?_)
    · refine g_aload_n rfl ?_
      refine g_aload_n rfl ?_
      refine g_gfi hIH227 sx_19 rfl (fun v236 ev236 lv236 uv236 => ?_)
      refine g_iconst (by decide) (fun v237 kv237 => ?_)
      refine g_iadd (by omega) (fun v238 ev238 => ?_)
      refine g_invvv hIH227 sx_19 rfl rfl rfl rfl (s_39 v238 (by omega) H227 hIH227 hJH227) (fun H239 r240 => ?_)
      obtain ⟨hIH239, hJH239, w241, w242, w243⟩ := r240
      have e244 : k1_1 = fZ H239 1 1 := e232.trans w241.symm
      have e245 : k19_7 = fZ H239 19 7 := e233.trans w242.symm
      have e246 : v234 = fZ H239 19 5 := ev234.trans w243.symm
      have ie245 : k19_7.toInt = (fZ H239 19 7).toInt := by rw [← e245]
      have ie246 : v234.toInt = (fZ H239 19 5).toInt := by rw [← e246]
      refine g_iload_n rfl ?_
      exact g_iret ⟨_, rfl, hIH239, hJH239, (e244.symm.trans ek1_1), (e245.symm.trans ek19_7), (by omega), (by omega)⟩
    · refine g_iload_n rfl ?_
      exact g_iret ⟨_, rfl, hIH227, hJH227, (e232.symm.trans ek1_1), (e233.symm.trans ek19_7), (by omega), (by omega)⟩
  · refine g_iload_n rfl ?_
    refine g_iload_n rfl ?_
    refine g_if2_le (fun c247 => ?_) (fun c247 => ?_)
    · refine g_aload_n rfl ?_
      refine g_gfk hI sx_19 rfl ek19_5 ?_
      refine g_if_eq (fun c248 => ?_) (fun c248 => ?_)
      · refine g_aload_n rfl ?_
        refine g_aload_n rfl ?_
        refine g_gfi hI sx_19 rfl (fun v249 ev249 lv249 uv249 => ?_)
        refine g_iconst (by decide) (fun v250 kv250 => ?_)
        refine g_iadd (by omega) (fun v251 ev251 => ?_)
        refine g_invvv hI sx_19 rfl rfl rfl rfl (s_39 v251 (by omega) H hI hJ) (fun H252 r253 => ?_)
        obtain ⟨hIH252, hJH252, w254, w255, w256⟩ := r253
        have e257 : k1_1 = fZ H252 1 1 := ek1_1.trans w254.symm
        have e258 : k19_7 = fZ H252 19 7 := ek19_7.trans w255.symm
        have e259 : k19_5 = fZ H252 19 5 := ek19_5.trans w256.symm
        have ie258 : k19_7.toInt = (fZ H252 19 7).toInt := by rw [← e258]
        have ie259 : k19_5.toInt = (fZ H252 19 5).toInt := by rw [← e259]
        refine g_iload_n rfl ?_
        exact g_iret ⟨_, rfl, hIH252, hJH252, (e257.symm.trans ek1_1), (e258.symm.trans ek19_7), (by omega), (by omega)⟩
      · refine g_iload_n rfl ?_
        exact g_iret ⟨_, rfl, hI, hJ, (ek1_1.symm.trans ek1_1), (ek19_7.symm.trans ek19_7), (by omega), (by omega)⟩
    · refine g_nop ?_
      refine g_aload_n rfl ?_
      refine g_iconst (by decide) (fun v260 kv260 => ?_)
      refine g_invvv hI sx_19 rfl rfl rfl rfl (s_40 v260 (by omega) H hI hJ) (fun H261 r262 => ?_)
      obtain ⟨hIH261, hJH261, w263, w264, p265⟩ := r262
      have e266 : k1_1 = fZ H261 1 1 := ek1_1.trans w263.symm
      have e267 : k19_7 = fZ H261 19 7 := ek19_7.trans w264.symm
      have ie267 : k19_7.toInt = (fZ H261 19 7).toInt := by rw [← e267]
      refine g_nop ?_
      refine g_aload_n rfl ?_
      refine g_gfi hIH261 sx_19 rfl (fun v268 ev268 lv268 uv268 => ?_)
      have iev268 : v268.toInt = (fZ H261 19 5).toInt := by rw [← ev268]
      refine g_if_eq (fun c269 => ?_) (fun c269 => ?_)
      · refine g_aload_n rfl ?_
        refine g_aload_n rfl ?_
        refine g_gfi hIH261 sx_19 rfl (fun v270 ev270 lv270 uv270 => ?_)
        refine g_iconst (by decide) (fun v271 kv271 => ?_)
        refine g_iadd (by omega) (fun v272 ev272 => ?_)
        refine g_invvv hIH261 sx_19 rfl rfl rfl rfl (s_39 v272 (by omega) H261 hIH261 hJH261) (fun H273 r274 => ?_)
        obtain ⟨hIH273, hJH273, w275, w276, w277⟩ := r274
        have e278 : k1_1 = fZ H273 1 1 := e266.trans w275.symm
        have e279 : k19_7 = fZ H273 19 7 := e267.trans w276.symm
        have e280 : v268 = fZ H273 19 5 := ev268.trans w277.symm
        have ie279 : k19_7.toInt = (fZ H273 19 7).toInt := by rw [← e279]
        have ie280 : v268.toInt = (fZ H273 19 5).toInt := by rw [← e280]
        refine g_iload_n rfl ?_
        exact g_iret ⟨_, rfl, hIH273, hJH273, (e278.symm.trans ek1_1), (e279.symm.trans ek19_7), (by omega), (by omega)⟩
      · refine g_iload_n rfl ?_
        exact g_iret ⟨_, rfl, hIH261, hJH261, (e266.symm.trans ek1_1), (e267.symm.trans ek19_7), (by omega), (by omega)⟩
set_option maxRecDepth 4000 in
set_option maxHeartbeats 4000000 in
/-- X4.readPlace -/
theorem s_42 (H : mzH) (hI : gI SX H) (hJ : JX H) : gCall 42 [.ref 19] H (gRv (fun H' => gI SX H' ∧ JX H' ∧ fZ H' 1 1 = fZ H 1 1 ∧ fZ H' 19 7 = fZ H 19 7)) := by
  obtain ⟨k1_1, ek1_1⟩ : ∃ z, z = fZ H 1 1 := ⟨_, rfl⟩
  have ik1_1 : k1_1.toInt = (fZ H 1 1).toInt := by rw [← ek1_1]
  have bk1_1 : 0 ≤ k1_1.toInt ∧ k1_1.toInt ≤ 900 := by rw [ek1_1]; exact fZ_of hI sx_1 rfl
  obtain ⟨k19_7, ek19_7⟩ : ∃ z, z = fZ H 19 7 := ⟨_, rfl⟩
  have ik19_7 : k19_7.toInt = (fZ H 19 7).toInt := by rw [← ek19_7]
  obtain ⟨k19_5, ek19_5⟩ : ∃ z, z = fZ H 19 5 := ⟨_, rfl⟩
  have ik19_5 : k19_5.toInt = (fZ H 19 5).toInt := by rw [← ek19_5]
  obtain ⟨k19_3, ek19_3⟩ : ∃ z, z = fZ H 19 3 := ⟨_, rfl⟩
  have ik19_3 : k19_3.toInt = (fZ H 19 3).toInt := by rw [← ek19_3]
  refine gG_call [(0, .ref 19)] ⟨rfl, trivial⟩ ?_
  show gG 2 zB_42 (mzBlk zB_42 0) [(0, .ref 19)] [] H 0 0 _
  refine g_aload_n rfl ?_
  refine g_gfr hI sx_19 rfl ?_
  refine g_gfi hI sx_11 rfl (fun v725 ev725 lv725 uv725 => ?_)
  refine g_bipush (by decide) (fun v726 kv726 => ?_)
  refine g_if2_ne (fun c727 => ?_) (fun c727 => ?_)
  · refine g_aload_n rfl ?_
    refine g_iconst (by decide) (fun v728 kv728 => ?_)
    refine g_iconst (by decide) (fun v729 kv729 => ?_)
    refine g_invvi hI sx_19 rfl rfl rfl rfl (s_50 v728 v729 H hI hJ (by omega)) (fun v732 H730 r731 => ?_)
    obtain ⟨hIH730, hJH730, w733, w734, p735, p736⟩ := r731
    have e737 : k1_1 = fZ H730 1 1 := ek1_1.trans w733.symm
    have e738 : k19_7 = fZ H730 19 7 := ek19_7.trans w734.symm
    have ie738 : k19_7.toInt = (fZ H730 19 7).toInt := by rw [← e738]
    refine g_pop rfl ?_
    refine g_aload_n rfl ?_
    refine g_gfi hIH730 sx_19 rfl (fun v739 ev739 lv739 uv739 => ?_)
    refine g_istore_n (l' := [(0, .ref 19), (1, .int v739)]) rfl rfl ?_
    refine g_aload_n rfl ?_
    refine g_gfi hIH730 sx_19 rfl (fun v740 ev740 lv740 uv740 => ?_)
    have iev740 : v740.toInt = (fZ H730 19 3).toInt := by rw [← ev740]
    refine g_bipush (by decide) (fun v741 kv741 => ?_)
    refine g_if2_ne (fun c742 => ?_) (fun c742 => ?_)
    · refine g_aload_n rfl ?_
      refine g_bipush (by decide) (fun v743 kv743 => ?_)
      refine g_bipush (by decide) (fun v744 kv744 => ?_)
      refine g_invvi hIH730 sx_19 rfl rfl rfl rfl (s_50 v743 v744 H730 hIH730 hJH730 (by omega)) (fun v747 H745 r746 => ?_)
      obtain ⟨hIH745, hJH745, w748, w749, p750, p751⟩ := r746
      have e752 : k1_1 = fZ H745 1 1 := e737.trans w748.symm
      have e753 : k19_7 = fZ H745 19 7 := e738.trans w749.symm
      have ie753 : k19_7.toInt = (fZ H745 19 7).toInt := by rw [← e753]
      refine g_pop rfl ?_
      refine g_aload_n rfl ?_
      refine g_gfi hIH745 sx_19 rfl (fun v754 ev754 lv754 uv754 => ?_)
      have iev754 : v754.toInt = (fZ H745 19 5).toInt := by rw [← ev754]
      refine g_if_ne (fun c755 => ?_) (fun c755 => ?_)
      · exact g_ret ⟨rfl, hIH745, hJH745, (e752.symm.trans ek1_1), (e753.symm.trans ek19_7)⟩
      · refine g_aload_n rfl ?_
        refine g_gfr hIH745 sx_19 rfl ?_
        refine g_iload_n rfl ?_
        refine g_invvv hIH745 sx_11 rfl rfl rfl rfl (s_14 11 zBo_11 v739 H745 hIH745 hJH745) (fun H756 r757 => ?_)
        obtain ⟨hIH756, hJH756, w758, w759⟩ := r757
        have e760 : k1_1 = fZ H756 1 1 := e752.trans w758.symm
        have e761 : k19_7 = fZ H756 19 7 := e753.trans w759.symm
        have ie761 : k19_7.toInt = (fZ H756 19 7).toInt := by rw [← e761]
        refine g_nop ?_
        exact g_ret ⟨rfl, hIH756, hJH756, (e760.symm.trans ek1_1), (e761.symm.trans ek19_7)⟩
    · refine g_aload_n rfl ?_
      refine g_gfr hIH730 sx_19 rfl ?_
      refine g_iload_n rfl ?_
      refine g_invvi hIH730 sx_11 rfl rfl rfl rfl (s_13 11 zBo_11 v739 H730 hIH730 hJH730) (fun v764 H762 r763 => ?_)
      obtain ⟨rfl, bv764⟩ := r763
      refine g_bipush (by decide) (fun v765 kv765 => ?_)
      refine g_if2_eq (fun c766 => ?_) (fun c766 => ?_)
      · refine g_aload_n rfl ?_
        refine g_bipush (by decide) (fun v767 kv767 => ?_)
        refine g_bipush (by decide) (fun v768 kv768 => ?_)
        refine g_invvi hIH730 sx_19 rfl rfl rfl rfl (s_50 v767 v768 H730 hIH730 hJH730 (by omega)) (fun v771 H769 r770 => ?_)
        obtain ⟨hIH769, hJH769, w772, w773, p774, p775⟩ := r770
        have e776 : k1_1 = fZ H769 1 1 := e737.trans w772.symm
        have e777 : k19_7 = fZ H769 19 7 := e738.trans w773.symm
        have ie777 : k19_7.toInt = (fZ H769 19 7).toInt := by rw [← e777]
        refine g_pop rfl ?_
        refine g_aload_n rfl ?_
        refine g_gfi hIH769 sx_19 rfl (fun v778 ev778 lv778 uv778 => ?_)
        have iev778 : v778.toInt = (fZ H769 19 5).toInt := by rw [← ev778]
        refine g_if_ne (fun c779 => ?_) (fun c779 => ?_)
        · exact g_ret ⟨rfl, hIH769, hJH769, (e776.symm.trans ek1_1), (e777.symm.trans ek19_7)⟩
        · refine g_aload_n rfl ?_
          refine g_gfr hIH769 sx_19 rfl ?_
          refine g_iload_n rfl ?_
          refine g_invvv hIH769 sx_11 rfl rfl rfl rfl (s_14 11 zBo_11 v739 H769 hIH769 hJH769) (fun H780 r781 => ?_)
          obtain ⟨hIH780, hJH780, w782, w783⟩ := r781
          have e784 : k1_1 = fZ H780 1 1 := e776.trans w782.symm
          have e785 : k19_7 = fZ H780 19 7 := e777.trans w783.symm
          have ie785 : k19_7.toInt = (fZ H780 19 7).toInt := by rw [← e785]
          refine g_nop ?_
          exact g_ret ⟨rfl, hIH780, hJH780, (e784.symm.trans ek1_1), (e785.symm.trans ek19_7)⟩
      · refine g_aload_n rfl ?_
        refine g_iconst (by decide) (fun v786 kv786 => ?_)
        refine g_invvv hIH730 sx_19 rfl rfl rfl rfl (s_40 v786 (by omega) H730 hIH730 hJH730) (fun H787 r788 => ?_)
        obtain ⟨hIH787, hJH787, w789, w790, p791⟩ := r788
        have e792 : k1_1 = fZ H787 1 1 := e737.trans w789.symm
        have e793 : k19_7 = fZ H787 19 7 := e738.trans w790.symm
        have ie793 : k19_7.toInt = (fZ H787 19 7).toInt := by rw [← e793]
        refine g_nop ?_
        refine g_aload_n rfl ?_
        refine g_bipush (by decide) (fun v794 kv794 => ?_)
        refine g_bipush (by decide) (fun v795 kv795 => ?_)
        refine g_invvi hIH787 sx_19 rfl rfl rfl rfl (s_50 v794 v795 H787 hIH787 hJH787 (by omega)) (fun v798 H796 r797 => ?_)
        obtain ⟨hIH796, hJH796, w799, w800, p801, p802⟩ := r797
        have e803 : k1_1 = fZ H796 1 1 := e792.trans w799.symm
        have e804 : k19_7 = fZ H796 19 7 := e793.trans w800.symm
        have ie804 : k19_7.toInt = (fZ H796 19 7).toInt := by rw [← e804]
        refine g_pop rfl ?_
        refine g_aload_n rfl ?_
        refine g_gfi hIH796 sx_19 rfl (fun v805 ev805 lv805 uv805 => ?_)
        have iev805 : v805.toInt = (fZ H796 19 5).toInt := by rw [← ev805]
        refine g_if_ne (fun c806 => ?_) (fun c806 => ?_)
        · exact g_ret ⟨rfl, hIH796, hJH796, (e803.symm.trans ek1_1), (e804.symm.trans ek19_7)⟩
        · refine g_aload_n rfl ?_
          refine g_gfr hIH796 sx_19 rfl ?_
          refine g_iload_n rfl ?_
          refine g_invvv hIH796 sx_11 rfl rfl rfl rfl (s_14 11 zBo_11 v739 H796 hIH796 hJH796) (fun H807 r808 => ?_)
          obtain ⟨hIH807, hJH807, w809, w810⟩ := r808
          have e811 : k1_1 = fZ H807 1 1 := e803.trans w809.symm
          have e812 : k19_7 = fZ H807 19 7 := e804.trans w810.symm
          have ie812 : k19_7.toInt = (fZ H807 19 7).toInt := by rw [← e812]
          refine g_nop ?_
          exact g_ret ⟨rfl, hIH807, hJH807, (e811.symm.trans ek1_1), (e812.symm.trans ek19_7)⟩
  · refine g_aload_n rfl ?_
    refine g_iconst (by decide) (fun v813 kv813 => ?_)
    refine g_invvv hI sx_19 rfl rfl rfl rfl (s_40 v813 (by omega) H hI hJ) (fun H814 r815 => ?_)
    obtain ⟨hIH814, hJH814, w816, w817, p818⟩ := r815
    have e819 : k1_1 = fZ H814 1 1 := ek1_1.trans w816.symm
    have e820 : k19_7 = fZ H814 19 7 := ek19_7.trans w817.symm
    have ie820 : k19_7.toInt = (fZ H814 19 7).toInt := by rw [← e820]
    refine g_nop ?_
    refine g_aload_n rfl ?_
    refine g_iconst (by decide) (fun v821 kv821 => ?_)
    refine g_iconst (by decide) (fun v822 kv822 => ?_)
    refine g_invvi hIH814 sx_19 rfl rfl rfl rfl (s_50 v821 v822 H814 hIH814 hJH814 (by omega)) (fun v825 H823 r824 => ?_)
    obtain ⟨hIH823, hJH823, w826, w827, p828, p829⟩ := r824
    have e830 : k1_1 = fZ H823 1 1 := e819.trans w826.symm
    have e831 : k19_7 = fZ H823 19 7 := e820.trans w827.symm
    have ie831 : k19_7.toInt = (fZ H823 19 7).toInt := by rw [← e831]
    refine g_pop rfl ?_
    refine g_aload_n rfl ?_
    refine g_gfi hIH823 sx_19 rfl (fun v832 ev832 lv832 uv832 => ?_)
    refine g_istore_n (l' := [(0, .ref 19), (1, .int v832)]) rfl rfl ?_
    refine g_aload_n rfl ?_
    refine g_gfi hIH823 sx_19 rfl (fun v833 ev833 lv833 uv833 => ?_)
    have iev833 : v833.toInt = (fZ H823 19 3).toInt := by rw [← ev833]
    refine g_bipush (by decide) (fun v834 kv834 => ?_)
    refine g_if2_ne (fun c835 => ?_) (fun c835 => ?_)
    · refine g_aload_n rfl ?_
      refine g_bipush (by decide) (fun v836 kv836 => ?_)
      refine g_bipush (by decide) (fun v837 kv837 => ?_)
      refine g_invvi hIH823 sx_19 rfl rfl rfl rfl (s_50 v836 v837 H823 hIH823 hJH823 (by omega)) (fun v840 H838 r839 => ?_)
      obtain ⟨hIH838, hJH838, w841, w842, p843, p844⟩ := r839
      have e845 : k1_1 = fZ H838 1 1 := e830.trans w841.symm
      have e846 : k19_7 = fZ H838 19 7 := e831.trans w842.symm
      have ie846 : k19_7.toInt = (fZ H838 19 7).toInt := by rw [← e846]
      refine g_pop rfl ?_
      refine g_aload_n rfl ?_
      refine g_gfi hIH838 sx_19 rfl (fun v847 ev847 lv847 uv847 => ?_)
      have iev847 : v847.toInt = (fZ H838 19 5).toInt := by rw [← ev847]
      refine g_if_ne (fun c848 => ?_) (fun c848 => ?_)
      · exact g_ret ⟨rfl, hIH838, hJH838, (e845.symm.trans ek1_1), (e846.symm.trans ek19_7)⟩
      · refine g_aload_n rfl ?_
        refine g_gfr hIH838 sx_19 rfl ?_
        refine g_iload_n rfl ?_
        refine g_invvv hIH838 sx_11 rfl rfl rfl rfl (s_14 11 zBo_11 v832 H838 hIH838 hJH838) (fun H849 r850 => ?_)
        obtain ⟨hIH849, hJH849, w851, w852⟩ := r850
        have e853 : k1_1 = fZ H849 1 1 := e845.trans w851.symm
        have e854 : k19_7 = fZ H849 19 7 := e846.trans w852.symm
        have ie854 : k19_7.toInt = (fZ H849 19 7).toInt := by rw [← e854]
        refine g_nop ?_
        exact g_ret ⟨rfl, hIH849, hJH849, (e853.symm.trans ek1_1), (e854.symm.trans ek19_7)⟩
    · refine g_aload_n rfl ?_
      refine g_gfr hIH823 sx_19 rfl ?_
      refine g_iload_n rfl ?_
      refine g_invvi hIH823 sx_11 rfl rfl rfl rfl (s_13 11 zBo_11 v832 H823 hIH823 hJH823) (fun v857 H855 r856 => ?_)
      obtain ⟨rfl, bv857⟩ := r856
      refine g_bipush (by decide) (fun v858 kv858 => ?_)
      refine g_if2_eq (fun c859 => ?_) (fun c859 => ?_)
      · refine g_aload_n rfl ?_
        refine g_bipush (by decide) (fun v860 kv860 => ?_)
        refine g_bipush (by decide) (fun v861 kv861 => ?_)
        refine g_invvi hIH823 sx_19 rfl rfl rfl rfl (s_50 v860 v861 H823 hIH823 hJH823 (by omega)) (fun v864 H862 r863 => ?_)
        obtain ⟨hIH862, hJH862, w865, w866, p867, p868⟩ := r863
        have e869 : k1_1 = fZ H862 1 1 := e830.trans w865.symm
        have e870 : k19_7 = fZ H862 19 7 := e831.trans w866.symm
        have ie870 : k19_7.toInt = (fZ H862 19 7).toInt := by rw [← e870]
        refine g_pop rfl ?_
        refine g_aload_n rfl ?_
        refine g_gfi hIH862 sx_19 rfl (fun v871 ev871 lv871 uv871 => ?_)
        have iev871 : v871.toInt = (fZ H862 19 5).toInt := by rw [← ev871]
        refine g_if_ne (fun c872 => ?_) (fun c872 => ?_)
        · exact g_ret ⟨rfl, hIH862, hJH862, (e869.symm.trans ek1_1), (e870.symm.trans ek19_7)⟩
        · refine g_aload_n rfl ?_
          refine g_gfr hIH862 sx_19 rfl ?_
          refine g_iload_n rfl ?_
          refine g_invvv hIH862 sx_11 rfl rfl rfl rfl (s_14 11 zBo_11 v832 H862 hIH862 hJH862) (fun H873 r874 => ?_)
          obtain ⟨hIH873, hJH873, w875, w876⟩ := r874
          have e877 : k1_1 = fZ H873 1 1 := e869.trans w875.symm
          have e878 : k19_7 = fZ H873 19 7 := e870.trans w876.symm
          have ie878 : k19_7.toInt = (fZ H873 19 7).toInt := by rw [← e878]
          refine g_nop ?_
          exact g_ret ⟨rfl, hIH873, hJH873, (e877.symm.trans ek1_1), (e878.symm.trans ek19_7)⟩
      · refine g_aload_n rfl ?_
        refine g_iconst (by decide) (fun v879 kv879 => ?_)
        refine g_invvv hIH823 sx_19 rfl rfl rfl rfl (s_40 v879 (by omega) H823 hIH823 hJH823) (fun H880 r881 => ?_)
        obtain ⟨hIH880, hJH880, w882, w883, p884⟩ := r881
        have e885 : k1_1 = fZ H880 1 1 := e830.trans w882.symm
        have e886 : k19_7 = fZ H880 19 7 := e831.trans w883.symm
        have ie886 : k19_7.toInt = (fZ H880 19 7).toInt := by rw [← e886]
        refine g_nop ?_
        refine g_aload_n rfl ?_
        refine g_bipush (by decide) (fun v887 kv887 => ?_)
        refine g_bipush (by decide) (fun v888 kv888 => ?_)
        refine g_invvi hIH880 sx_19 rfl rfl rfl rfl (s_50 v887 v888 H880 hIH880 hJH880 (by omega)) (fun v891 H889 r890 => ?_)
        obtain ⟨hIH889, hJH889, w892, w893, p894, p895⟩ := r890
        have e896 : k1_1 = fZ H889 1 1 := e885.trans w892.symm
        have e897 : k19_7 = fZ H889 19 7 := e886.trans w893.symm
        have ie897 : k19_7.toInt = (fZ H889 19 7).toInt := by rw [← e897]
        refine g_pop rfl ?_
        refine g_aload_n rfl ?_
        refine g_gfi hIH889 sx_19 rfl (fun v898 ev898 lv898 uv898 => ?_)
        have iev898 : v898.toInt = (fZ H889 19 5).toInt := by rw [← ev898]
        refine g_if_ne (fun c899 => ?_) (fun c899 => ?_)
        · exact g_ret ⟨rfl, hIH889, hJH889, (e896.symm.trans ek1_1), (e897.symm.trans ek19_7)⟩
        · refine g_aload_n rfl ?_
          refine g_gfr hIH889 sx_19 rfl ?_
          refine g_iload_n rfl ?_
          refine g_invvv hIH889 sx_11 rfl rfl rfl rfl (s_14 11 zBo_11 v832 H889 hIH889 hJH889) (fun H900 r901 => ?_)
          obtain ⟨hIH900, hJH900, w902, w903⟩ := r901
          have e904 : k1_1 = fZ H900 1 1 := e896.trans w902.symm
          have e905 : k19_7 = fZ H900 19 7 := e897.trans w903.symm
          have ie905 : k19_7.toInt = (fZ H900 19 7).toInt := by rw [← e905]
          refine g_nop ?_
          exact g_ret ⟨rfl, hIH900, hJH900, (e904.symm.trans ek1_1), (e905.symm.trans ek19_7)⟩
set_option maxRecDepth 4000 in
set_option maxHeartbeats 4000000 in
/-- X4.takePlace -/
theorem s_49 (a1 : Int32) (H : mzH) (hI : gI SX H) (hJ : JX H) : gCall 49 [.ref 19, .int a1] H (gRi (fun v H' => gI SX H' ∧ JX H' ∧ (-2 ≤ v.toInt ∧ v.toInt ≤ 7) ∧ fZ H' 1 1 = fZ H 1 1 ∧ fZ H' 19 7 = fZ H 19 7 ∧ ((fZ H' 19 5).toInt = 0 → (fZ H 19 5).toInt = 0))) := by
  obtain ⟨k1_1, ek1_1⟩ : ∃ z, z = fZ H 1 1 := ⟨_, rfl⟩
  have ik1_1 : k1_1.toInt = (fZ H 1 1).toInt := by rw [← ek1_1]
  have bk1_1 : 0 ≤ k1_1.toInt ∧ k1_1.toInt ≤ 900 := by rw [ek1_1]; exact fZ_of hI sx_1 rfl
  obtain ⟨k19_7, ek19_7⟩ : ∃ z, z = fZ H 19 7 := ⟨_, rfl⟩
  have ik19_7 : k19_7.toInt = (fZ H 19 7).toInt := by rw [← ek19_7]
  obtain ⟨k19_5, ek19_5⟩ : ∃ z, z = fZ H 19 5 := ⟨_, rfl⟩
  have ik19_5 : k19_5.toInt = (fZ H 19 5).toInt := by rw [← ek19_5]
  obtain ⟨k19_3, ek19_3⟩ : ∃ z, z = fZ H 19 3 := ⟨_, rfl⟩
  have ik19_3 : k19_3.toInt = (fZ H 19 3).toInt := by rw [← ek19_3]
  refine gG_call [(0, .ref 19), (1, .int a1)] ⟨rfl, rfl, trivial⟩ ?_
  show gG 3 zB_49 (mzBlk zB_49 0) [(0, .ref 19), (1, .int a1)] [] H 0 0 _
  refine g_aload_n rfl ?_
  refine g_gfk hI sx_19 rfl ek19_3 ?_
  refine g_bipush (by decide) (fun v321 kv321 => ?_)
  refine g_if2_ne (fun c322 => ?_) (fun c322 => ?_)
  · refine g_bipush (by decide) (fun v323 kv323 => ?_)
    refine g_nop ?_
    refine g_istore_n (l' := [(0, .ref 19), (1, .int a1), (2, .int v323)]) rfl rfl ?_
    refine g_iload_n rfl ?_
    refine g_bipush (by decide) (fun v324 kv324 => ?_)
    refine g_if2_ne (fun c325 => ?_) (fun c325 => ?_)
    · exfalso; omega
    · refine g_aload_n rfl ?_
      refine g_iconst (by decide) (fun v326 kv326 => ?_)
      refine g_invvv hI sx_19 rfl rfl rfl rfl (s_40 v326 (by omega) H hI hJ) (fun H327 r328 => ?_)
      obtain ⟨hIH327, hJH327, w329, w330, p331⟩ := r328
      have e332 : k1_1 = fZ H327 1 1 := ek1_1.trans w329.symm
      have e333 : k19_7 = fZ H327 19 7 := ek19_7.trans w330.symm
      have ie333 : k19_7.toInt = (fZ H327 19 7).toInt := by rw [← e333]
      refine g_goto ?_
      refine g_aload_n rfl ?_
      refine g_bipush (by decide) (fun v334 kv334 => ?_)
      refine g_bipush (by decide) (fun v335 kv335 => ?_)
      refine g_invvi hIH327 sx_19 rfl rfl rfl rfl (s_50 v334 v335 H327 hIH327 hJH327 (by omega)) (fun v338 H336 r337 => ?_)
      obtain ⟨hIH336, hJH336, w339, w340, p341, p342⟩ := r337
      have e343 : k1_1 = fZ H336 1 1 := e332.trans w339.symm
      have e344 : k19_7 = fZ H336 19 7 := e333.trans w340.symm
      have ie344 : k19_7.toInt = (fZ H336 19 7).toInt := by rw [← e344]
      refine g_pop rfl ?_
      refine g_iload_n rfl ?_
      exact g_iret ⟨_, rfl, hIH336, hJH336, (by omega), (e343.symm.trans ek1_1), (e344.symm.trans ek19_7), (by omega)⟩
  · refine g_aload_n rfl ?_
    refine g_gfr hI sx_19 rfl ?_
    refine g_aload_n rfl ?_
    refine g_gfi hI sx_19 rfl (fun v345 ev345 lv345 uv345 => ?_)
    refine g_invvi hI sx_11 rfl rfl rfl rfl (s_13 11 zBo_11 v345 H hI hJ) (fun v348 H346 r347 => ?_)
    obtain ⟨rfl, bv348⟩ := r347
    refine g_goto ?_
    refine g_istore_n (l' := [(0, .ref 19), (1, .int a1), (2, .int v348)]) rfl rfl ?_
    refine g_iload_n rfl ?_
    refine g_bipush (by decide) (fun v349 kv349 => ?_)
    refine g_if2_ne (fun c350 => ?_) (fun c350 => ?_)
    · refine g_iload_n rfl ?_
      refine g_iload_n rfl ?_
      refine g_if2_ne (fun c351 => ?_) (fun c351 => ?_)
      · refine g_aload_n rfl ?_
        refine g_bipush (by decide) (fun v352 kv352 => ?_)
        refine g_bipush (by decide) (fun v353 kv353 => ?_)
        refine g_invvi hI sx_19 rfl rfl rfl rfl (s_50 v352 v353 H hI hJ (by omega)) (fun v356 H354 r355 => ?_)
        obtain ⟨hIH354, hJH354, w357, w358, p359, p360⟩ := r355
        have e361 : k1_1 = fZ H354 1 1 := ek1_1.trans w357.symm
        have e362 : k19_7 = fZ H354 19 7 := ek19_7.trans w358.symm
        have ie362 : k19_7.toInt = (fZ H354 19 7).toInt := by rw [← e362]
        refine g_pop rfl ?_
        refine g_iload_n rfl ?_
        exact g_iret ⟨_, rfl, hIH354, hJH354, (by omega), (e361.symm.trans ek1_1), (e362.symm.trans ek19_7), (by omega)⟩
      · refine g_aload_n rfl ?_
        refine g_iconst (by decide) (fun v363 kv363 => ?_)
        refine g_invvv hI sx_19 rfl rfl rfl rfl (s_40 v363 (by omega) H hI hJ) (fun H364 r365 => ?_)
        obtain ⟨hIH364, hJH364, w366, w367, p368⟩ := r365
        have e369 : k1_1 = fZ H364 1 1 := ek1_1.trans w366.symm
        have e370 : k19_7 = fZ H364 19 7 := ek19_7.trans w367.symm
        have ie370 : k19_7.toInt = (fZ H364 19 7).toInt := by rw [← e370]
        refine g_nop ?_
        refine g_aload_n rfl ?_
        refine g_bipush (by decide) (fun v371 kv371 => ?_)
        refine g_bipush (by decide) (fun v372 kv372 => ?_)
        refine g_invvi hIH364 sx_19 rfl rfl rfl rfl (s_50 v371 v372 H364 hIH364 hJH364 (by omega)) (fun v375 H373 r374 => ?_)
        obtain ⟨hIH373, hJH373, w376, w377, p378, p379⟩ := r374
        have e380 : k1_1 = fZ H373 1 1 := e369.trans w376.symm
        have e381 : k19_7 = fZ H373 19 7 := e370.trans w377.symm
        have ie381 : k19_7.toInt = (fZ H373 19 7).toInt := by rw [← e381]
        refine g_pop rfl ?_
        refine g_iload_n rfl ?_
        exact g_iret ⟨_, rfl, hIH373, hJH373, (by omega), (e380.symm.trans ek1_1), (e381.symm.trans ek19_7), (by omega)⟩
    · refine g_aload_n rfl ?_
      refine g_iconst (by decide) (fun v382 kv382 => ?_)
      refine g_invvv hI sx_19 rfl rfl rfl rfl (s_40 v382 (by omega) H hI hJ) (fun H383 r384 => ?_)
      obtain ⟨hIH383, hJH383, w385, w386, p387⟩ := r384
      have e388 : k1_1 = fZ H383 1 1 := ek1_1.trans w385.symm
      have e389 : k19_7 = fZ H383 19 7 := ek19_7.trans w386.symm
      have ie389 : k19_7.toInt = (fZ H383 19 7).toInt := by rw [← e389]
      refine g_goto ?_
      refine g_aload_n rfl ?_
      refine g_bipush (by decide) (fun v390 kv390 => ?_)
      refine g_bipush (by decide) (fun v391 kv391 => ?_)
      refine g_invvi hIH383 sx_19 rfl rfl rfl rfl (s_50 v390 v391 H383 hIH383 hJH383 (by omega)) (fun v394 H392 r393 => ?_)
      obtain ⟨hIH392, hJH392, w395, w396, p397, p398⟩ := r393
      have e399 : k1_1 = fZ H392 1 1 := e388.trans w395.symm
      have e400 : k19_7 = fZ H392 19 7 := e389.trans w396.symm
      have ie400 : k19_7.toInt = (fZ H392 19 7).toInt := by rw [← e400]
      refine g_pop rfl ?_
      refine g_iload_n rfl ?_
      exact g_iret ⟨_, rfl, hIH392, hJH392, (by omega), (e399.symm.trans ek1_1), (e400.symm.trans ek19_7), (by omega)⟩
set_option maxRecDepth 4000 in
set_option maxHeartbeats 4000000 in
/-- X4.takeNumber -/
theorem s_48 (a1 : Int32) (a2 : Int32) (H : mzH) (hI : gI SX H) (hJ : JX H) : gCall 48 [.ref 19, .int a1, .int a2] H (gRi (fun v H' => gI SX H' ∧ JX H' ∧ fZ H' 1 1 = fZ H 1 1 ∧ fZ H' 19 7 = fZ H 19 7 ∧ ((fZ H' 19 5).toInt = 0 → ((fZ H 19 5).toInt = 0 ∧ a1.toInt ≤ v.toInt ∧ v.toInt ≤ a2.toInt)))) := by
  obtain ⟨k1_1, ek1_1⟩ : ∃ z, z = fZ H 1 1 := ⟨_, rfl⟩
  have ik1_1 : k1_1.toInt = (fZ H 1 1).toInt := by rw [← ek1_1]
  have bk1_1 : 0 ≤ k1_1.toInt ∧ k1_1.toInt ≤ 900 := by rw [ek1_1]; exact fZ_of hI sx_1 rfl
  obtain ⟨k19_7, ek19_7⟩ : ∃ z, z = fZ H 19 7 := ⟨_, rfl⟩
  have ik19_7 : k19_7.toInt = (fZ H 19 7).toInt := by rw [← ek19_7]
  obtain ⟨k19_5, ek19_5⟩ : ∃ z, z = fZ H 19 5 := ⟨_, rfl⟩
  have ik19_5 : k19_5.toInt = (fZ H 19 5).toInt := by rw [← ek19_5]
  obtain ⟨k19_3, ek19_3⟩ : ∃ z, z = fZ H 19 3 := ⟨_, rfl⟩
  have ik19_3 : k19_3.toInt = (fZ H 19 3).toInt := by rw [← ek19_3]
  refine gG_call [(0, .ref 19), (1, .int a1), (2, .int a2)] ⟨rfl, rfl, rfl, trivial⟩ ?_
  show gG 4 zB_48 (mzBlk zB_48 0) [(0, .ref 19), (1, .int a1), (2, .int a2)] [] H 0 0 _
  refine g_aload_n rfl ?_
  refine g_gfi hI sx_19 rfl (fun v261 ev261 lv261 uv261 => ?_)
  refine g_istore_n (l' := [(0, .ref 19), (1, .int a1), (2, .int a2), (3, .int v261)]) rfl rfl ?_
  refine g_aload_n rfl ?_
  refine g_gfk hI sx_19 rfl ek19_3 ?_
  refine g_bipush (by decide) (fun v262 kv262 => ?_)
  refine g_if2_ne (fun c263 => ?_) (fun c263 => ?_)
  · refine g_aload_n rfl ?_
    refine g_bipush (by decide) (fun v264 kv264 => ?_)
    refine g_bipush (by decide) (fun v265 kv265 => ?_)
    refine g_invvi hI sx_19 rfl rfl rfl rfl (s_50 v264 v265 H hI hJ (by omega)) (fun v268 H266 r267 => ?_)
    obtain ⟨hIH266, hJH266, w269, w270, p271, p272⟩ := r267
    have e273 : k1_1 = fZ H266 1 1 := ek1_1.trans w269.symm
    have e274 : k19_7 = fZ H266 19 7 := ek19_7.trans w270.symm
    have ie274 : k19_7.toInt = (fZ H266 19 7).toInt := by rw [← e274]
    refine g_pop rfl ?_
    refine g_iload_n rfl ?_
    exact g_iret ⟨_, rfl, hIH266, hJH266, (e273.symm.trans ek1_1), (e274.symm.trans ek19_7), (by omega)⟩
  · refine g_iload_n rfl ?_
    refine g_iload_n rfl ?_
    refine g_if2_lt (fun c275 => ?_) (fun c275 => ?_)
    · refine g_aload_n rfl ?_
      refine g_iconst (by decide) (fun v276 kv276 => ?_)
      refine g_invvv hI sx_19 rfl rfl rfl rfl (s_40 v276 (by omega) H hI hJ) (fun H277 r278 => ?_)
      obtain ⟨hIH277, hJH277, w279, w280, p281⟩ := r278
      have e282 : k1_1 = fZ H277 1 1 := ek1_1.trans w279.symm
      have e283 : k19_7 = fZ H277 19 7 := ek19_7.trans w280.symm
      have ie283 : k19_7.toInt = (fZ H277 19 7).toInt := by rw [← e283]
      refine g_nop ?_
      refine g_aload_n rfl ?_
      refine g_bipush (by decide) (fun v284 kv284 => ?_)
      refine g_bipush (by decide) (fun v285 kv285 => ?_)
      refine g_invvi hIH277 sx_19 rfl rfl rfl rfl (s_50 v284 v285 H277 hIH277 hJH277 (by omega)) (fun v288 H286 r287 => ?_)
      obtain ⟨hIH286, hJH286, w289, w290, p291, p292⟩ := r287
      have e293 : k1_1 = fZ H286 1 1 := e282.trans w289.symm
      have e294 : k19_7 = fZ H286 19 7 := e283.trans w290.symm
      have ie294 : k19_7.toInt = (fZ H286 19 7).toInt := by rw [← e294]
      refine g_pop rfl ?_
      refine g_iload_n rfl ?_
      exact g_iret ⟨_, rfl, hIH286, hJH286, (e293.symm.trans ek1_1), (e294.symm.trans ek19_7), (by omega)⟩
    · refine g_iload_n rfl ?_
      refine g_iload_n rfl ?_
      refine g_if2_le (fun c295 => ?_) (fun c295 => ?_)
      · refine g_aload_n rfl ?_
        refine g_bipush (by decide) (fun v296 kv296 => ?_)
        refine g_bipush (by decide) (fun v297 kv297 => ?_)
        refine g_invvi hI sx_19 rfl rfl rfl rfl (s_50 v296 v297 H hI hJ (by omega)) (fun v300 H298 r299 => ?_)
        obtain ⟨hIH298, hJH298, w301, w302, p303, p304⟩ := r299
        have e305 : k1_1 = fZ H298 1 1 := ek1_1.trans w301.symm
        have e306 : k19_7 = fZ H298 19 7 := ek19_7.trans w302.symm
        have ie306 : k19_7.toInt = (fZ H298 19 7).toInt := by rw [← e306]
        refine g_pop rfl ?_
        refine g_iload_n rfl ?_
        exact g_iret ⟨_, rfl, hIH298, hJH298, (e305.symm.trans ek1_1), (e306.symm.trans ek19_7), (by omega)⟩
      · refine g_nop ?_
        refine g_aload_n rfl ?_
        refine g_iconst (by decide) (fun v307 kv307 => ?_)
        refine g_invvv hI sx_19 rfl rfl rfl rfl (s_40 v307 (by omega) H hI hJ) (fun H308 r309 => ?_)
        obtain ⟨hIH308, hJH308, w310, w311, p312⟩ := r309
        have e313 : k1_1 = fZ H308 1 1 := ek1_1.trans w310.symm
        have e314 : k19_7 = fZ H308 19 7 := ek19_7.trans w311.symm
        have ie314 : k19_7.toInt = (fZ H308 19 7).toInt := by rw [← e314]
        refine g_nop ?_
        refine g_aload_n rfl ?_
        refine g_bipush (by decide) (fun v315 kv315 => ?_)
        refine g_bipush (by decide) (fun v316 kv316 => ?_)
        refine g_invvi hIH308 sx_19 rfl rfl rfl rfl (s_50 v315 v316 H308 hIH308 hJH308 (by omega)) (fun v319 H317 r318 => ?_)
        obtain ⟨hIH317, hJH317, w320, w321, p322, p323⟩ := r318
        have e324 : k1_1 = fZ H317 1 1 := e313.trans w320.symm
        have e325 : k19_7 = fZ H317 19 7 := e314.trans w321.symm
        have ie325 : k19_7.toInt = (fZ H317 19 7).toInt := by rw [← e325]
        refine g_pop rfl ?_
        refine g_iload_n rfl ?_
        exact g_iret ⟨_, rfl, hIH317, hJH317, (e324.symm.trans ek1_1), (e325.symm.trans ek19_7), (by omega)⟩
set_option maxRecDepth 4000 in
set_option maxHeartbeats 4000000 in
/-- X4.readRoad -/
theorem s_43 (H : mzH) (hI : gI SX H) (hJ : JX H) : gCall 43 [.ref 19] H (gRv (fun H' => gI SX H' ∧ JX H' ∧ fZ H' 1 1 = fZ H 1 1 ∧ fZ H' 19 7 = fZ H 19 7)) := by
  obtain ⟨k1_1, ek1_1⟩ : ∃ z, z = fZ H 1 1 := ⟨_, rfl⟩
  have ik1_1 : k1_1.toInt = (fZ H 1 1).toInt := by rw [← ek1_1]
  have bk1_1 : 0 ≤ k1_1.toInt ∧ k1_1.toInt ≤ 900 := by rw [ek1_1]; exact fZ_of hI sx_1 rfl
  obtain ⟨k19_7, ek19_7⟩ : ∃ z, z = fZ H 19 7 := ⟨_, rfl⟩
  have ik19_7 : k19_7.toInt = (fZ H 19 7).toInt := by rw [← ek19_7]
  obtain ⟨k19_5, ek19_5⟩ : ∃ z, z = fZ H 19 5 := ⟨_, rfl⟩
  have ik19_5 : k19_5.toInt = (fZ H 19 5).toInt := by rw [← ek19_5]
  obtain ⟨k19_3, ek19_3⟩ : ∃ z, z = fZ H 19 3 := ⟨_, rfl⟩
  have ik19_3 : k19_3.toInt = (fZ H 19 3).toInt := by rw [← ek19_3]
  refine gG_call [(0, .ref 19)] ⟨rfl, trivial⟩ ?_
  show gG 4 zB_43 (mzBlk zB_43 0) [(0, .ref 19)] [] H 0 0 _
  refine g_aload_n rfl ?_
  refine g_gfr hI sx_19 rfl ?_
  refine g_gfi hI sx_11 rfl (fun v413 ev413 lv413 uv413 => ?_)
  refine g_bipush (by decide) (fun v414 kv414 => ?_)
  refine g_if2_ne (fun c415 => ?_) (fun c415 => ?_)
  · refine g_aload_n rfl ?_
    refine g_iconst (by decide) (fun v416 kv416 => ?_)
    refine g_iconst (by decide) (fun v417 kv417 => ?_)
    refine g_invvi hI sx_19 rfl rfl rfl rfl (s_50 v416 v417 H hI hJ (by omega)) (fun v420 H418 r419 => ?_)
    obtain ⟨hIH418, hJH418, w421, w422, p423, p424⟩ := r419
    have e425 : k1_1 = fZ H418 1 1 := ek1_1.trans w421.symm
    have e426 : k19_7 = fZ H418 19 7 := ek19_7.trans w422.symm
    have ie426 : k19_7.toInt = (fZ H418 19 7).toInt := by rw [← e426]
    refine g_pop rfl ?_
    refine g_aload_n rfl ?_
    refine g_iconst (by decide) (fun v427 kv427 => ?_)
    refine g_invvi hIH418 sx_19 rfl rfl rfl rfl (s_49 v427 H418 hIH418 hJH418) (fun v430 H428 r429 => ?_)
    obtain ⟨hIH428, hJH428, bv430, w431, w432, p433⟩ := r429
    have e434 : k1_1 = fZ H428 1 1 := e425.trans w431.symm
    have e435 : k19_7 = fZ H428 19 7 := e426.trans w432.symm
    have ie435 : k19_7.toInt = (fZ H428 19 7).toInt := by rw [← e435]
    refine g_istore_n (l' := [(0, .ref 19), (1, .int v430)]) rfl rfl ?_
    refine g_aload_n rfl ?_
    refine g_iload_n rfl ?_
    refine g_invvi hIH428 sx_19 rfl rfl rfl rfl (s_49 v430 H428 hIH428 hJH428) (fun v438 H436 r437 => ?_)
    obtain ⟨hIH436, hJH436, bv438, w439, w440, p441⟩ := r437
    have e442 : k1_1 = fZ H436 1 1 := e434.trans w439.symm
    have e443 : k19_7 = fZ H436 19 7 := e435.trans w440.symm
    have ie443 : k19_7.toInt = (fZ H436 19 7).toInt := by rw [← e443]
    refine g_istore_n (l' := [(0, .ref 19), (1, .int v430), (2, .int v438)]) rfl rfl ?_
    refine g_aload_n rfl ?_
    refine g_iconst (by decide) (fun v444 kv444 => ?_)
    refine g_bipush (by decide) (fun v445 kv445 => ?_)
    refine g_invvi hIH436 sx_19 rfl rfl rfl rfl (s_48 v444 v445 H436 hIH436 hJH436) (fun v448 H446 r447 => ?_)
    obtain ⟨hIH446, hJH446, w449, w450, p451⟩ := r447
    have e452 : k1_1 = fZ H446 1 1 := e442.trans w449.symm
    have e453 : k19_7 = fZ H446 19 7 := e443.trans w450.symm
    have ie453 : k19_7.toInt = (fZ H446 19 7).toInt := by rw [← e453]
    refine g_istore_n (l' := [(0, .ref 19), (1, .int v430), (2, .int v438), (3, .int v448)]) rfl rfl ?_
    refine g_aload_n rfl ?_
    refine g_gfi hIH446 sx_19 rfl (fun v454 ev454 lv454 uv454 => ?_)
    have iev454 : v454.toInt = (fZ H446 19 5).toInt := by rw [← ev454]
    refine g_if_ne (fun c455 => ?_) (fun c455 => ?_)
    · exact g_ret ⟨rfl, hIH446, hJH446, (e452.symm.trans ek1_1), (e453.symm.trans ek19_7)⟩
    · refine g_aload_n rfl ?_
      refine g_gfr hIH446 sx_19 rfl ?_
      refine g_iload_n rfl ?_
      refine g_iload_n rfl ?_
      refine g_iload_n rfl ?_
      refine g_invvv hIH446 sx_11 rfl rfl rfl rfl (s_15 11 zBo_11 v430 v438 v448 H446 hIH446 hJH446) (fun H456 r457 => ?_)
      obtain ⟨hIH456, hJH456, w458, w459⟩ := r457
      have e460 : k1_1 = fZ H456 1 1 := e452.trans w458.symm
      have e461 : k19_7 = fZ H456 19 7 := e453.trans w459.symm
      have ie461 : k19_7.toInt = (fZ H456 19 7).toInt := by rw [← e461]
      refine g_nop ?_
      exact g_ret ⟨rfl, hIH456, hJH456, (e460.symm.trans ek1_1), (e461.symm.trans ek19_7)⟩
  · refine g_aload_n rfl ?_
    refine g_iconst (by decide) (fun v462 kv462 => ?_)
    refine g_invvv hI sx_19 rfl rfl rfl rfl (s_40 v462 (by omega) H hI hJ) (fun H463 r464 => ?_)
    obtain ⟨hIH463, hJH463, w465, w466, p467⟩ := r464
    have e468 : k1_1 = fZ H463 1 1 := ek1_1.trans w465.symm
    have e469 : k19_7 = fZ H463 19 7 := ek19_7.trans w466.symm
    have ie469 : k19_7.toInt = (fZ H463 19 7).toInt := by rw [← e469]
    refine g_nop ?_
    refine g_aload_n rfl ?_
    refine g_iconst (by decide) (fun v470 kv470 => ?_)
    refine g_iconst (by decide) (fun v471 kv471 => ?_)
    refine g_invvi hIH463 sx_19 rfl rfl rfl rfl (s_50 v470 v471 H463 hIH463 hJH463 (by omega)) (fun v474 H472 r473 => ?_)
    obtain ⟨hIH472, hJH472, w475, w476, p477, p478⟩ := r473
    have e479 : k1_1 = fZ H472 1 1 := e468.trans w475.symm
    have e480 : k19_7 = fZ H472 19 7 := e469.trans w476.symm
    have ie480 : k19_7.toInt = (fZ H472 19 7).toInt := by rw [← e480]
    refine g_pop rfl ?_
    refine g_aload_n rfl ?_
    refine g_iconst (by decide) (fun v481 kv481 => ?_)
    refine g_invvi hIH472 sx_19 rfl rfl rfl rfl (s_49 v481 H472 hIH472 hJH472) (fun v484 H482 r483 => ?_)
    obtain ⟨hIH482, hJH482, bv484, w485, w486, p487⟩ := r483
    have e488 : k1_1 = fZ H482 1 1 := e479.trans w485.symm
    have e489 : k19_7 = fZ H482 19 7 := e480.trans w486.symm
    have ie489 : k19_7.toInt = (fZ H482 19 7).toInt := by rw [← e489]
    refine g_istore_n (l' := [(0, .ref 19), (1, .int v484)]) rfl rfl ?_
    refine g_aload_n rfl ?_
    refine g_iload_n rfl ?_
    refine g_invvi hIH482 sx_19 rfl rfl rfl rfl (s_49 v484 H482 hIH482 hJH482) (fun v492 H490 r491 => ?_)
    obtain ⟨hIH490, hJH490, bv492, w493, w494, p495⟩ := r491
    have e496 : k1_1 = fZ H490 1 1 := e488.trans w493.symm
    have e497 : k19_7 = fZ H490 19 7 := e489.trans w494.symm
    have ie497 : k19_7.toInt = (fZ H490 19 7).toInt := by rw [← e497]
    refine g_istore_n (l' := [(0, .ref 19), (1, .int v484), (2, .int v492)]) rfl rfl ?_
    refine g_aload_n rfl ?_
    refine g_iconst (by decide) (fun v498 kv498 => ?_)
    refine g_bipush (by decide) (fun v499 kv499 => ?_)
    refine g_invvi hIH490 sx_19 rfl rfl rfl rfl (s_48 v498 v499 H490 hIH490 hJH490) (fun v502 H500 r501 => ?_)
    obtain ⟨hIH500, hJH500, w503, w504, p505⟩ := r501
    have e506 : k1_1 = fZ H500 1 1 := e496.trans w503.symm
    have e507 : k19_7 = fZ H500 19 7 := e497.trans w504.symm
    have ie507 : k19_7.toInt = (fZ H500 19 7).toInt := by rw [← e507]
    refine g_istore_n (l' := [(0, .ref 19), (1, .int v484), (2, .int v492), (3, .int v502)]) rfl rfl ?_
    refine g_aload_n rfl ?_
    refine g_gfi hIH500 sx_19 rfl (fun v508 ev508 lv508 uv508 => ?_)
    have iev508 : v508.toInt = (fZ H500 19 5).toInt := by rw [← ev508]
    refine g_if_ne (fun c509 => ?_) (fun c509 => ?_)
    · exact g_ret ⟨rfl, hIH500, hJH500, (e506.symm.trans ek1_1), (e507.symm.trans ek19_7)⟩
    · refine g_aload_n rfl ?_
      refine g_gfr hIH500 sx_19 rfl ?_
      refine g_iload_n rfl ?_
      refine g_iload_n rfl ?_
      refine g_iload_n rfl ?_
      refine g_invvv hIH500 sx_11 rfl rfl rfl rfl (s_15 11 zBo_11 v484 v492 v502 H500 hIH500 hJH500) (fun H510 r511 => ?_)
      obtain ⟨hIH510, hJH510, w512, w513⟩ := r511
      have e514 : k1_1 = fZ H510 1 1 := e506.trans w512.symm
      have e515 : k19_7 = fZ H510 19 7 := e507.trans w513.symm
      have ie515 : k19_7.toInt = (fZ H510 19 7).toInt := by rw [← e515]
      refine g_nop ?_
      exact g_ret ⟨rfl, hIH510, hJH510, (e514.symm.trans ek1_1), (e515.symm.trans ek19_7)⟩
set_option maxRecDepth 4000 in
set_option maxHeartbeats 4000000 in
/-- X4.readFits -/
theorem s_44 (H : mzH) (hI : gI SX H) (hJ : JX H) : gCall 44 [.ref 19] H (gRv (fun H' => gI SX H' ∧ JX H' ∧ fZ H' 1 1 = fZ H 1 1 ∧ fZ H' 19 7 = fZ H 19 7)) := by
  obtain ⟨k1_1, ek1_1⟩ : ∃ z, z = fZ H 1 1 := ⟨_, rfl⟩
  have ik1_1 : k1_1.toInt = (fZ H 1 1).toInt := by rw [← ek1_1]
  have bk1_1 : 0 ≤ k1_1.toInt ∧ k1_1.toInt ≤ 900 := by rw [ek1_1]; exact fZ_of hI sx_1 rfl
  obtain ⟨k19_7, ek19_7⟩ : ∃ z, z = fZ H 19 7 := ⟨_, rfl⟩
  have ik19_7 : k19_7.toInt = (fZ H 19 7).toInt := by rw [← ek19_7]
  obtain ⟨k19_5, ek19_5⟩ : ∃ z, z = fZ H 19 5 := ⟨_, rfl⟩
  have ik19_5 : k19_5.toInt = (fZ H 19 5).toInt := by rw [← ek19_5]
  obtain ⟨k19_3, ek19_3⟩ : ∃ z, z = fZ H 19 3 := ⟨_, rfl⟩
  have ik19_3 : k19_3.toInt = (fZ H 19 3).toInt := by rw [← ek19_3]
  refine gG_call [(0, .ref 19)] ⟨rfl, trivial⟩ ?_
  show gG 3 zB_44 (mzBlk zB_44 0) [(0, .ref 19)] [] H 0 0 _
  refine g_aload_n rfl ?_
  refine g_gfr hI sx_19 rfl ?_
  refine g_gfi hI sx_11 rfl (fun v457 ev457 lv457 uv457 => ?_)
  refine g_if_eq (fun c458 => ?_) (fun c458 => ?_)
  · refine g_aload_n rfl ?_
    refine g_iconst (by decide) (fun v459 kv459 => ?_)
    refine g_iconst (by decide) (fun v460 kv460 => ?_)
    refine g_invvi hI sx_19 rfl rfl rfl rfl (s_50 v459 v460 H hI hJ (by omega)) (fun v463 H461 r462 => ?_)
    obtain ⟨hIH461, hJH461, w464, w465, p466, p467⟩ := r462
    have e468 : k1_1 = fZ H461 1 1 := ek1_1.trans w464.symm
    have e469 : k19_7 = fZ H461 19 7 := ek19_7.trans w465.symm
    have ie469 : k19_7.toInt = (fZ H461 19 7).toInt := by rw [← e469]
    refine g_pop rfl ?_
    refine g_aload_n rfl ?_
    refine g_iconst (by decide) (fun v470 kv470 => ?_)
    refine g_bipush (by decide) (fun v471 kv471 => ?_)
    refine g_invvi hIH461 sx_19 rfl rfl rfl rfl (s_48 v470 v471 H461 hIH461 hJH461) (fun v474 H472 r473 => ?_)
    obtain ⟨hIH472, hJH472, w475, w476, p477⟩ := r473
    have e478 : k1_1 = fZ H472 1 1 := e468.trans w475.symm
    have e479 : k19_7 = fZ H472 19 7 := e469.trans w476.symm
    have ie479 : k19_7.toInt = (fZ H472 19 7).toInt := by rw [← e479]
    refine g_istore_n (l' := [(0, .ref 19), (1, .int v474)]) rfl rfl ?_
    refine g_aload_n rfl ?_
    refine g_iconst (by decide) (fun v480 kv480 => ?_)
    refine g_bipush (by decide) (fun v481 kv481 => ?_)
    refine g_invvi hIH472 sx_19 rfl rfl rfl rfl (s_48 v480 v481 H472 hIH472 hJH472) (fun v484 H482 r483 => ?_)
    obtain ⟨hIH482, hJH482, w485, w486, p487⟩ := r483
    have e488 : k1_1 = fZ H482 1 1 := e478.trans w485.symm
    have e489 : k19_7 = fZ H482 19 7 := e479.trans w486.symm
    have ie489 : k19_7.toInt = (fZ H482 19 7).toInt := by rw [← e489]
    refine g_istore_n (l' := [(0, .ref 19), (1, .int v474), (2, .int v484)]) rfl rfl ?_
    refine g_aload_n rfl ?_
    refine g_gfi hIH482 sx_19 rfl (fun v490 ev490 lv490 uv490 => ?_)
    have iev490 : v490.toInt = (fZ H482 19 5).toInt := by rw [← ev490]
    refine g_if_ne (fun c491 => ?_) (fun c491 => ?_)
    · exact g_ret ⟨rfl, hIH482, hJH482, (e488.symm.trans ek1_1), (e489.symm.trans ek19_7)⟩
    · refine g_aload_n rfl ?_
      refine g_gfr hIH482 sx_19 rfl ?_
      refine g_iload_n rfl ?_
      refine g_pfi hIH482 sx_11 rfl (gz_any _) (fun H492 eH492 hIH492 => ?_)
      have hJH492 : JX H492 := JX_sF eH492 hJH482
      have e493 : k1_1 = fZ H492 1 1 := by rw [eH492, fZ_sF_nc (by omega)]; exact e488
      have e494 : k19_7 = fZ H492 19 7 := by rw [eH492, fZ_sF_nc (by omega)]; exact e489
      have e495 : v490 = fZ H492 19 5 := by rw [eH492, fZ_sF_nc (by omega)]; exact ev490
      have jj496_3 : (fZ H492 19 3).toInt = (fZ H482 19 3).toInt := by rw [eH492, fZ_sF_nc (by omega)]
      have jj497_3 : (fZ H492 19 3).toInt = (fZ H482 19 3).toInt := by rw [eH492, fZ_sF_nc (by omega)]
      have ie494 : k19_7.toInt = (fZ H492 19 7).toInt := by rw [← e494]
      have ie495 : v490.toInt = (fZ H492 19 5).toInt := by rw [← e495]
      refine g_aload_n rfl ?_
      refine g_gfr hIH492 sx_19 rfl ?_
      refine g_iload_n rfl ?_
      refine g_pfi hIH492 sx_11 rfl (gz_any _) (fun H498 eH498 hIH498 => ?_)
      have hJH498 : JX H498 := JX_sF eH498 hJH492
      have e499 : k1_1 = fZ H498 1 1 := by rw [eH498, fZ_sF_nc (by omega)]; exact e493
      have e500 : k19_7 = fZ H498 19 7 := by rw [eH498, fZ_sF_nc (by omega)]; exact e494
      have e501 : v490 = fZ H498 19 5 := by rw [eH498, fZ_sF_nc (by omega)]; exact e495
      have jj502_3 : (fZ H498 19 3).toInt = (fZ H492 19 3).toInt := by rw [eH498, fZ_sF_nc (by omega)]
      have jj503_3 : (fZ H498 19 3).toInt = (fZ H492 19 3).toInt := by rw [eH498, fZ_sF_nc (by omega)]
      have ie500 : k19_7.toInt = (fZ H498 19 7).toInt := by rw [← e500]
      have ie501 : v490.toInt = (fZ H498 19 5).toInt := by rw [← e501]
      refine g_aload_n rfl ?_
      refine g_gfr hIH498 sx_19 rfl ?_
      refine g_iconst (by decide) (fun v504 kv504 => ?_)
      refine g_pfz hIH498 sx_11 rfl (by omega) (fun H505 eH505 hIH505 => ?_)
      have hJH505 : JX H505 := JX_sF eH505 hJH498
      have e506 : k1_1 = fZ H505 1 1 := by rw [eH505, fZ_sF_nc (by omega)]; exact e499
      have e507 : k19_7 = fZ H505 19 7 := by rw [eH505, fZ_sF_nc (by omega)]; exact e500
      have e508 : v490 = fZ H505 19 5 := by rw [eH505, fZ_sF_nc (by omega)]; exact e501
      have jj509_3 : (fZ H505 19 3).toInt = (fZ H498 19 3).toInt := by rw [eH505, fZ_sF_nc (by omega)]
      have jj510_3 : (fZ H505 19 3).toInt = (fZ H498 19 3).toInt := by rw [eH505, fZ_sF_nc (by omega)]
      have ie507 : k19_7.toInt = (fZ H505 19 7).toInt := by rw [← e507]
      have ie508 : v490.toInt = (fZ H505 19 5).toInt := by rw [← e508]
      refine g_nop ?_
      exact g_ret ⟨rfl, hIH505, hJH505, (e506.symm.trans ek1_1), (e507.symm.trans ek19_7)⟩
  · refine g_aload_n rfl ?_
    refine g_iconst (by decide) (fun v511 kv511 => ?_)
    refine g_invvv hI sx_19 rfl rfl rfl rfl (s_40 v511 (by omega) H hI hJ) (fun H512 r513 => ?_)
    obtain ⟨hIH512, hJH512, w514, w515, p516⟩ := r513
    have e517 : k1_1 = fZ H512 1 1 := ek1_1.trans w514.symm
    have e518 : k19_7 = fZ H512 19 7 := ek19_7.trans w515.symm
    have ie518 : k19_7.toInt = (fZ H512 19 7).toInt := by rw [← e518]
    refine g_nop ?_
    refine g_aload_n rfl ?_
    refine g_iconst (by decide) (fun v519 kv519 => ?_)
    refine g_iconst (by decide) (fun v520 kv520 => ?_)
    refine g_invvi hIH512 sx_19 rfl rfl rfl rfl (s_50 v519 v520 H512 hIH512 hJH512 (by omega)) (fun v523 H521 r522 => ?_)
    obtain ⟨hIH521, hJH521, w524, w525, p526, p527⟩ := r522
    have e528 : k1_1 = fZ H521 1 1 := e517.trans w524.symm
    have e529 : k19_7 = fZ H521 19 7 := e518.trans w525.symm
    have ie529 : k19_7.toInt = (fZ H521 19 7).toInt := by rw [← e529]
    refine g_pop rfl ?_
    refine g_aload_n rfl ?_
    refine g_iconst (by decide) (fun v530 kv530 => ?_)
    refine g_bipush (by decide) (fun v531 kv531 => ?_)
    refine g_invvi hIH521 sx_19 rfl rfl rfl rfl (s_48 v530 v531 H521 hIH521 hJH521) (fun v534 H532 r533 => ?_)
    obtain ⟨hIH532, hJH532, w535, w536, p537⟩ := r533
    have e538 : k1_1 = fZ H532 1 1 := e528.trans w535.symm
    have e539 : k19_7 = fZ H532 19 7 := e529.trans w536.symm
    have ie539 : k19_7.toInt = (fZ H532 19 7).toInt := by rw [← e539]
    refine g_istore_n (l' := [(0, .ref 19), (1, .int v534)]) rfl rfl ?_
    refine g_aload_n rfl ?_
    refine g_iconst (by decide) (fun v540 kv540 => ?_)
    refine g_bipush (by decide) (fun v541 kv541 => ?_)
    refine g_invvi hIH532 sx_19 rfl rfl rfl rfl (s_48 v540 v541 H532 hIH532 hJH532) (fun v544 H542 r543 => ?_)
    obtain ⟨hIH542, hJH542, w545, w546, p547⟩ := r543
    have e548 : k1_1 = fZ H542 1 1 := e538.trans w545.symm
    have e549 : k19_7 = fZ H542 19 7 := e539.trans w546.symm
    have ie549 : k19_7.toInt = (fZ H542 19 7).toInt := by rw [← e549]
    refine g_istore_n (l' := [(0, .ref 19), (1, .int v534), (2, .int v544)]) rfl rfl ?_
    refine g_aload_n rfl ?_
    refine g_gfi hIH542 sx_19 rfl (fun v550 ev550 lv550 uv550 => ?_)
    have iev550 : v550.toInt = (fZ H542 19 5).toInt := by rw [← ev550]
    refine g_if_ne (fun c551 => ?_) (fun c551 => ?_)
    · exact g_ret ⟨rfl, hIH542, hJH542, (e548.symm.trans ek1_1), (e549.symm.trans ek19_7)⟩
    · refine g_aload_n rfl ?_
      refine g_gfr hIH542 sx_19 rfl ?_
      refine g_iload_n rfl ?_
      refine g_pfi hIH542 sx_11 rfl (gz_any _) (fun H552 eH552 hIH552 => ?_)
      have hJH552 : JX H552 := JX_sF eH552 hJH542
      have e553 : k1_1 = fZ H552 1 1 := by rw [eH552, fZ_sF_nc (by omega)]; exact e548
      have e554 : k19_7 = fZ H552 19 7 := by rw [eH552, fZ_sF_nc (by omega)]; exact e549
      have e555 : v550 = fZ H552 19 5 := by rw [eH552, fZ_sF_nc (by omega)]; exact ev550
      have jj556_3 : (fZ H552 19 3).toInt = (fZ H542 19 3).toInt := by rw [eH552, fZ_sF_nc (by omega)]
      have jj557_3 : (fZ H552 19 3).toInt = (fZ H542 19 3).toInt := by rw [eH552, fZ_sF_nc (by omega)]
      have ie554 : k19_7.toInt = (fZ H552 19 7).toInt := by rw [← e554]
      have ie555 : v550.toInt = (fZ H552 19 5).toInt := by rw [← e555]
      refine g_aload_n rfl ?_
      refine g_gfr hIH552 sx_19 rfl ?_
      refine g_iload_n rfl ?_
      refine g_pfi hIH552 sx_11 rfl (gz_any _) (fun H558 eH558 hIH558 => ?_)
      have hJH558 : JX H558 := JX_sF eH558 hJH552
      have e559 : k1_1 = fZ H558 1 1 := by rw [eH558, fZ_sF_nc (by omega)]; exact e553
      have e560 : k19_7 = fZ H558 19 7 := by rw [eH558, fZ_sF_nc (by omega)]; exact e554
      have e561 : v550 = fZ H558 19 5 := by rw [eH558, fZ_sF_nc (by omega)]; exact e555
      have jj562_3 : (fZ H558 19 3).toInt = (fZ H552 19 3).toInt := by rw [eH558, fZ_sF_nc (by omega)]
      have jj563_3 : (fZ H558 19 3).toInt = (fZ H552 19 3).toInt := by rw [eH558, fZ_sF_nc (by omega)]
      have ie560 : k19_7.toInt = (fZ H558 19 7).toInt := by rw [← e560]
      have ie561 : v550.toInt = (fZ H558 19 5).toInt := by rw [← e561]
      refine g_aload_n rfl ?_
      refine g_gfr hIH558 sx_19 rfl ?_
      refine g_iconst (by decide) (fun v564 kv564 => ?_)
      refine g_pfz hIH558 sx_11 rfl (by omega) (fun H565 eH565 hIH565 => ?_)
      have hJH565 : JX H565 := JX_sF eH565 hJH558
      have e566 : k1_1 = fZ H565 1 1 := by rw [eH565, fZ_sF_nc (by omega)]; exact e559
      have e567 : k19_7 = fZ H565 19 7 := by rw [eH565, fZ_sF_nc (by omega)]; exact e560
      have e568 : v550 = fZ H565 19 5 := by rw [eH565, fZ_sF_nc (by omega)]; exact e561
      have jj569_3 : (fZ H565 19 3).toInt = (fZ H558 19 3).toInt := by rw [eH565, fZ_sF_nc (by omega)]
      have jj570_3 : (fZ H565 19 3).toInt = (fZ H558 19 3).toInt := by rw [eH565, fZ_sF_nc (by omega)]
      have ie567 : k19_7.toInt = (fZ H565 19 7).toInt := by rw [← e567]
      have ie568 : v550.toInt = (fZ H565 19 5).toInt := by rw [← e568]
      refine g_nop ?_
      exact g_ret ⟨rfl, hIH565, hJH565, (e566.symm.trans ek1_1), (e567.symm.trans ek19_7)⟩
set_option maxRecDepth 4000 in
set_option maxHeartbeats 4000000 in
/-- X4.takeAct -/
theorem s_46 (H : mzH) (hI : gI SX H) (hJ : JX H) : gCall 46 [.ref 19] H (gRi (fun v H' => gI SX H' ∧ JX H' ∧ (0 ≤ v.toInt ∧ v.toInt ≤ 10) ∧ fZ H' 1 1 = fZ H 1 1 ∧ fZ H' 19 7 = fZ H 19 7 ∧ ((fZ H' 19 5).toInt = 0 → (fZ H 19 5).toInt = 0))) := by
  obtain ⟨k1_1, ek1_1⟩ : ∃ z, z = fZ H 1 1 := ⟨_, rfl⟩
  have ik1_1 : k1_1.toInt = (fZ H 1 1).toInt := by rw [← ek1_1]
  have bk1_1 : 0 ≤ k1_1.toInt ∧ k1_1.toInt ≤ 900 := by rw [ek1_1]; exact fZ_of hI sx_1 rfl
  obtain ⟨k19_7, ek19_7⟩ : ∃ z, z = fZ H 19 7 := ⟨_, rfl⟩
  have ik19_7 : k19_7.toInt = (fZ H 19 7).toInt := by rw [← ek19_7]
  obtain ⟨k19_5, ek19_5⟩ : ∃ z, z = fZ H 19 5 := ⟨_, rfl⟩
  have ik19_5 : k19_5.toInt = (fZ H 19 5).toInt := by rw [← ek19_5]
  obtain ⟨k19_3, ek19_3⟩ : ∃ z, z = fZ H 19 3 := ⟨_, rfl⟩
  have ik19_3 : k19_3.toInt = (fZ H 19 3).toInt := by rw [← ek19_3]
  refine gG_call [(0, .ref 19)] ⟨rfl, trivial⟩ ?_
  show gG 1 zB_46 (mzBlk zB_46 0) [(0, .ref 19)] [] H 0 0 _
  refine g_aload_n rfl ?_
  refine g_gfk hI sx_19 rfl ek19_3 ?_
  refine g_iconst (by decide) (fun v117 kv117 => ?_)
  refine g_if2_ne (fun c118 => ?_) (fun c118 => ?_)
  · refine g_iconst (by decide) (fun v119 kv119 => ?_)
    refine g_aload_n rfl ?_
    refine g_bipush (by decide) (fun v120 kv120 => ?_)
    refine g_bipush (by decide) (fun v121 kv121 => ?_)
    refine g_invvi hI sx_19 rfl rfl rfl rfl (s_50 v120 v121 H hI hJ (by omega)) (fun v124 H122 r123 => ?_)
    obtain ⟨hIH122, hJH122, w125, w126, p127, p128⟩ := r123
    have e129 : k1_1 = fZ H122 1 1 := ek1_1.trans w125.symm
    have e130 : k19_7 = fZ H122 19 7 := ek19_7.trans w126.symm
    have ie130 : k19_7.toInt = (fZ H122 19 7).toInt := by rw [← e130]
    refine g_iadd (by omega) (fun v131 ev131 => ?_)
    refine g_bipush (by decide) (fun v132 kv132 => ?_)
    refine g_isub (by omega) (fun v133 ev133 => ?_)
    exact g_iret ⟨_, rfl, hIH122, hJH122, (by omega), (e129.symm.trans ek1_1), (e130.symm.trans ek19_7), (by omega)⟩
  · refine g_aload_n rfl ?_
    refine g_iconst (by decide) (fun v134 kv134 => ?_)
    refine g_iconst (by decide) (fun v135 kv135 => ?_)
    refine g_invvi hI sx_19 rfl rfl rfl rfl (s_50 v134 v135 H hI hJ (by omega)) (fun v138 H136 r137 => ?_)
    obtain ⟨hIH136, hJH136, w139, w140, p141, p142⟩ := r137
    have e143 : k1_1 = fZ H136 1 1 := ek1_1.trans w139.symm
    have e144 : k19_7 = fZ H136 19 7 := ek19_7.trans w140.symm
    have ie144 : k19_7.toInt = (fZ H136 19 7).toInt := by rw [← e144]
    refine g_pop rfl ?_
    refine g_iconst (by decide) (fun v145 kv145 => ?_)
    exact g_iret ⟨_, rfl, hIH136, hJH136, (by omega), (e143.symm.trans ek1_1), (e144.symm.trans ek19_7), (by omega)⟩
set_option maxRecDepth 4000 in
set_option maxHeartbeats 4000000 in
/-- X4.takeSecond -/
theorem s_47 (a1 : Int32) (H : mzH) (hI : gI SX H) (hJ : JX H) : gCall 47 [.ref 19, .int a1] H (gRi (fun v H' => gI SX H' ∧ JX H' ∧ fZ H' 1 1 = fZ H 1 1 ∧ fZ H' 19 7 = fZ H 19 7 ∧ ((fZ H' 19 5).toInt = 0 → ((fZ H 19 5).toInt = 0 ∧ -2 ≤ v.toInt ∧ v.toInt ≤ 39 ∧ (a1.toInt = 1 → 0 ≤ v.toInt))))) := by
  obtain ⟨k1_1, ek1_1⟩ : ∃ z, z = fZ H 1 1 := ⟨_, rfl⟩
  have ik1_1 : k1_1.toInt = (fZ H 1 1).toInt := by rw [← ek1_1]
  have bk1_1 : 0 ≤ k1_1.toInt ∧ k1_1.toInt ≤ 900 := by rw [ek1_1]; exact fZ_of hI sx_1 rfl
  obtain ⟨k19_7, ek19_7⟩ : ∃ z, z = fZ H 19 7 := ⟨_, rfl⟩
  have ik19_7 : k19_7.toInt = (fZ H 19 7).toInt := by rw [← ek19_7]
  obtain ⟨k19_5, ek19_5⟩ : ∃ z, z = fZ H 19 5 := ⟨_, rfl⟩
  have ik19_5 : k19_5.toInt = (fZ H 19 5).toInt := by rw [← ek19_5]
  obtain ⟨k19_3, ek19_3⟩ : ∃ z, z = fZ H 19 3 := ⟨_, rfl⟩
  have ik19_3 : k19_3.toInt = (fZ H 19 3).toInt := by rw [← ek19_3]
  refine gG_call [(0, .ref 19), (1, .int a1)] ⟨rfl, rfl, trivial⟩ ?_
  show gG 2 zB_47 (mzBlk zB_47 0) [(0, .ref 19), (1, .int a1)] [] H 0 0 _
  refine g_iload_n rfl ?_
  refine g_sw (by decide) (fun c209 => ?_) ⟨fun c209 => ?_, fun c209 => ?_, fun c209 => ?_, fun c209 => ?_, fun c209 => ?_, fun c209 => ?_, fun c209 => ?_, fun c209 => ?_, fun c209 => ?_, trivial⟩
  · refine g_bipush (by decide) (fun v210 kv210 => ?_)
    exact g_iret ⟨_, rfl, hI, hJ, (ek1_1.symm.trans ek1_1), (ek19_7.symm.trans ek19_7), (by omega)⟩
  · refine g_aload_n rfl ?_
    refine g_iconst (by decide) (fun v211 kv211 => ?_)
    refine g_invvi hI sx_19 rfl rfl rfl rfl (s_49 v211 H hI hJ) (fun v214 H212 r213 => ?_)
    obtain ⟨hIH212, hJH212, bv214, w215, w216, p217⟩ := r213
    have e218 : k1_1 = fZ H212 1 1 := ek1_1.trans w215.symm
    have e219 : k19_7 = fZ H212 19 7 := ek19_7.trans w216.symm
    have ie219 : k19_7.toInt = (fZ H212 19 7).toInt := by rw [← e219]
    exact g_iret ⟨_, rfl, hIH212, hJH212, (e218.symm.trans ek1_1), (e219.symm.trans ek19_7), (by omega)⟩
  · refine g_aload_n rfl ?_
    refine g_iconst (by decide) (fun v220 kv220 => ?_)
    refine g_bipush (by decide) (fun v221 kv221 => ?_)
    refine g_invvi hI sx_19 rfl rfl rfl rfl (s_48 v220 v221 H hI hJ) (fun v224 H222 r223 => ?_)
    obtain ⟨hIH222, hJH222, w225, w226, p227⟩ := r223
    have e228 : k1_1 = fZ H222 1 1 := ek1_1.trans w225.symm
    have e229 : k19_7 = fZ H222 19 7 := ek19_7.trans w226.symm
    have ie229 : k19_7.toInt = (fZ H222 19 7).toInt := by rw [← e229]
    exact g_iret ⟨_, rfl, hIH222, hJH222, (e228.symm.trans ek1_1), (e229.symm.trans ek19_7), (by omega)⟩
  · refine g_bipush (by decide) (fun v230 kv230 => ?_)
    exact g_iret ⟨_, rfl, hI, hJ, (ek1_1.symm.trans ek1_1), (ek19_7.symm.trans ek19_7), (by omega)⟩
  · refine g_bipush (by decide) (fun v231 kv231 => ?_)
    exact g_iret ⟨_, rfl, hI, hJ, (ek1_1.symm.trans ek1_1), (ek19_7.symm.trans ek19_7), (by omega)⟩
  · refine g_bipush (by decide) (fun v232 kv232 => ?_)
    exact g_iret ⟨_, rfl, hI, hJ, (ek1_1.symm.trans ek1_1), (ek19_7.symm.trans ek19_7), (by omega)⟩
  · refine g_aload_n rfl ?_
    refine g_iconst (by decide) (fun v233 kv233 => ?_)
    refine g_invvi hI sx_19 rfl rfl rfl rfl (s_49 v233 H hI hJ) (fun v236 H234 r235 => ?_)
    obtain ⟨hIH234, hJH234, bv236, w237, w238, p239⟩ := r235
    have e240 : k1_1 = fZ H234 1 1 := ek1_1.trans w237.symm
    have e241 : k19_7 = fZ H234 19 7 := ek19_7.trans w238.symm
    have ie241 : k19_7.toInt = (fZ H234 19 7).toInt := by rw [← e241]
    exact g_iret ⟨_, rfl, hIH234, hJH234, (e240.symm.trans ek1_1), (e241.symm.trans ek19_7), (by omega)⟩
  · refine g_aload_n rfl ?_
    refine g_iconst (by decide) (fun v242 kv242 => ?_)
    refine g_invvi hI sx_19 rfl rfl rfl rfl (s_49 v242 H hI hJ) (fun v245 H243 r244 => ?_)
    obtain ⟨hIH243, hJH243, bv245, w246, w247, p248⟩ := r244
    have e249 : k1_1 = fZ H243 1 1 := ek1_1.trans w246.symm
    have e250 : k19_7 = fZ H243 19 7 := ek19_7.trans w247.symm
    have ie250 : k19_7.toInt = (fZ H243 19 7).toInt := by rw [← e250]
    exact g_iret ⟨_, rfl, hIH243, hJH243, (e249.symm.trans ek1_1), (e250.symm.trans ek19_7), (by omega)⟩
  · refine g_bipush (by decide) (fun v251 kv251 => ?_)
    exact g_iret ⟨_, rfl, hI, hJ, (ek1_1.symm.trans ek1_1), (ek19_7.symm.trans ek19_7), (by omega)⟩
  · refine g_aload_n rfl ?_
    refine g_iconst (by decide) (fun v252 kv252 => ?_)
    refine g_invvi hI sx_19 rfl rfl rfl rfl (s_49 v252 H hI hJ) (fun v255 H253 r254 => ?_)
    obtain ⟨hIH253, hJH253, bv255, w256, w257, p258⟩ := r254
    have e259 : k1_1 = fZ H253 1 1 := ek1_1.trans w256.symm
    have e260 : k19_7 = fZ H253 19 7 := ek19_7.trans w257.symm
    have ie260 : k19_7.toInt = (fZ H253 19 7).toInt := by rw [← e260]
    exact g_iret ⟨_, rfl, hIH253, hJH253, (e259.symm.trans ek1_1), (e260.symm.trans ek19_7), (by omega)⟩
set_option maxRecDepth 4000 in
set_option maxHeartbeats 4000000 in
/-- X4.readMessage -/
theorem s_45 (H : mzH) (hI : gI SX H) (hJ : JX H) : gCall 45 [.ref 19] H (gRv (fun H' => gI SX H' ∧ JX H' ∧ fZ H' 1 1 = fZ H 1 1 ∧ fZ H' 19 7 = fZ H 19 7)) := by
  obtain ⟨k1_1, ek1_1⟩ : ∃ z, z = fZ H 1 1 := ⟨_, rfl⟩
  have ik1_1 : k1_1.toInt = (fZ H 1 1).toInt := by rw [← ek1_1]
  have bk1_1 : 0 ≤ k1_1.toInt ∧ k1_1.toInt ≤ 900 := by rw [ek1_1]; exact fZ_of hI sx_1 rfl
  obtain ⟨k19_7, ek19_7⟩ : ∃ z, z = fZ H 19 7 := ⟨_, rfl⟩
  have ik19_7 : k19_7.toInt = (fZ H 19 7).toInt := by rw [← ek19_7]
  obtain ⟨k19_5, ek19_5⟩ : ∃ z, z = fZ H 19 5 := ⟨_, rfl⟩
  have ik19_5 : k19_5.toInt = (fZ H 19 5).toInt := by rw [← ek19_5]
  obtain ⟨k19_3, ek19_3⟩ : ∃ z, z = fZ H 19 3 := ⟨_, rfl⟩
  have ik19_3 : k19_3.toInt = (fZ H 19 3).toInt := by rw [← ek19_3]
  refine gG_call [(0, .ref 19)] ⟨rfl, trivial⟩ ?_
  show gG 6 zB_45 (mzBlk zB_45 0) [(0, .ref 19)] [] H 0 0 _
  refine g_aload_n rfl ?_
  refine g_gfr hI sx_19 rfl ?_
  refine g_gfi hI sx_11 rfl (fun v749 ev749 lv749 uv749 => ?_)
  refine g_bipush (by decide) (fun v750 kv750 => ?_)
  refine g_if2_ne (fun c751 => ?_) (fun c751 => ?_)
  · refine g_aload_n rfl ?_
    refine g_iconst (by decide) (fun v752 kv752 => ?_)
    refine g_iconst (by decide) (fun v753 kv753 => ?_)
    refine g_invvi hI sx_19 rfl rfl rfl rfl (s_50 v752 v753 H hI hJ (by omega)) (fun v756 H754 r755 => ?_)
    obtain ⟨hIH754, hJH754, w757, w758, p759, p760⟩ := r755
    have e761 : k1_1 = fZ H754 1 1 := ek1_1.trans w757.symm
    have e762 : k19_7 = fZ H754 19 7 := ek19_7.trans w758.symm
    have ie762 : k19_7.toInt = (fZ H754 19 7).toInt := by rw [← e762]
    refine g_pop rfl ?_
    refine g_aload_n rfl ?_
    refine g_iconst (by decide) (fun v763 kv763 => ?_)
    refine g_sipush (by decide) (fun v764 kv764 => ?_)
    refine g_invvi hIH754 sx_19 rfl rfl rfl rfl (s_48 v763 v764 H754 hIH754 hJH754) (fun v767 H765 r766 => ?_)
    obtain ⟨hIH765, hJH765, w768, w769, p770⟩ := r766
    have e771 : k1_1 = fZ H765 1 1 := e761.trans w768.symm
    have e772 : k19_7 = fZ H765 19 7 := e762.trans w769.symm
    have ie772 : k19_7.toInt = (fZ H765 19 7).toInt := by rw [← e772]
    refine g_istore_n (l' := [(0, .ref 19), (1, .int v767)]) rfl rfl ?_
    refine g_aload_n rfl ?_
    refine g_invvi hIH765 sx_19 rfl rfl rfl rfl (s_46 H765 hIH765 hJH765) (fun v775 H773 r774 => ?_)
    obtain ⟨hIH773, hJH773, bv775, w776, w777, p778⟩ := r774
    have e779 : k1_1 = fZ H773 1 1 := e771.trans w776.symm
    have e780 : k19_7 = fZ H773 19 7 := e772.trans w777.symm
    have ie780 : k19_7.toInt = (fZ H773 19 7).toInt := by rw [← e780]
    refine g_istore_n (l' := [(0, .ref 19), (1, .int v767), (2, .int v775)]) rfl rfl ?_
    refine g_aload_n rfl ?_
    refine g_iconst (by decide) (fun v781 kv781 => ?_)
    refine g_bipush (by decide) (fun v782 kv782 => ?_)
    refine g_invvi hIH773 sx_19 rfl rfl rfl rfl (s_48 v781 v782 H773 hIH773 hJH773) (fun v785 H783 r784 => ?_)
    obtain ⟨hIH783, hJH783, w786, w787, p788⟩ := r784
    have e789 : k1_1 = fZ H783 1 1 := e779.trans w786.symm
    have e790 : k19_7 = fZ H783 19 7 := e780.trans w787.symm
    have ie790 : k19_7.toInt = (fZ H783 19 7).toInt := by rw [← e790]
    refine g_istore_n (l' := [(0, .ref 19), (1, .int v767), (2, .int v775), (3, .int v785)]) rfl rfl ?_
    refine g_iconst (by decide) (fun v791 kv791 => ?_)
    refine g_istore (l' := [(0, .ref 19), (1, .int v767), (2, .int v775), (3, .int v785), (4, .int v791)]) rfl rfl ?_
    refine g_iload_n rfl ?_
    refine g_if_ne (fun c792 => ?_) (fun c792 => ?_)
    · refine g_aload_n rfl ?_
      refine g_iload_n rfl ?_
      refine g_invvi hIH783 sx_19 rfl rfl rfl rfl (s_47 v775 H783 hIH783 hJH783) (fun v795 H793 r794 => ?_)
      obtain ⟨hIH793, hJH793, w796, w797, p798⟩ := r794
      have e799 : k1_1 = fZ H793 1 1 := e789.trans w796.symm
      have e800 : k19_7 = fZ H793 19 7 := e790.trans w797.symm
      have ie800 : k19_7.toInt = (fZ H793 19 7).toInt := by rw [← e800]
      refine g_istore (l' := [(0, .ref 19), (1, .int v767), (2, .int v775), (3, .int v785), (4, .int v791), (5, .int v795)]) rfl rfl ?_
      refine g_aload_n rfl ?_
      refine g_gfi hIH793 sx_19 rfl (fun v801 ev801 lv801 uv801 => ?_)
      have iev801 : v801.toInt = (fZ H793 19 5).toInt := by rw [← ev801]
      refine g_if_ne (fun c802 => ?_) (fun c802 => ?_)
      · exact g_ret ⟨rfl, hIH793, hJH793, (e799.symm.trans ek1_1), (e800.symm.trans ek19_7)⟩
      · refine g_aload_n rfl ?_
        refine g_gfr hIH793 sx_19 rfl ?_
        refine g_iload_n rfl ?_
        refine g_iload_n rfl ?_
        refine g_iload_n rfl ?_
        refine g_iload rfl ?_
        refine g_iload rfl ?_
        refine g_invvv hIH793 sx_11 rfl rfl rfl rfl (s_16 11 zBo_11 v767 v775 v785 (by omega) v795 (by omega) v791 H793 hIH793 hJH793 (by omega)) (fun H803 r804 => ?_)
        obtain ⟨hIH803, hJH803, w805, w806⟩ := r804
        have e807 : k1_1 = fZ H803 1 1 := e799.trans w805.symm
        have e808 : k19_7 = fZ H803 19 7 := e800.trans w806.symm
        have ie808 : k19_7.toInt = (fZ H803 19 7).toInt := by rw [← e808]
        refine g_nop ?_
        exact g_ret ⟨rfl, hIH803, hJH803, (e807.symm.trans ek1_1), (e808.symm.trans ek19_7)⟩
    · refine g_iconst (by decide) (fun v809 kv809 => ?_)
      refine g_aload_n rfl ?_
      refine g_iconst (by decide) (fun v810 kv810 => ?_)
      refine g_bipush (by decide) (fun v811 kv811 => ?_)
      refine g_invvi hIH783 sx_19 rfl rfl rfl rfl (s_50 v810 v811 H783 hIH783 hJH783 (by omega)) (fun v814 H812 r813 => ?_)
      obtain ⟨hIH812, hJH812, w815, w816, p817, p818⟩ := r813
      have e819 : k1_1 = fZ H812 1 1 := e789.trans w815.symm
      have e820 : k19_7 = fZ H812 19 7 := e790.trans w816.symm
      have ie820 : k19_7.toInt = (fZ H812 19 7).toInt := by rw [← e820]
      refine g_iadd (by omega) (fun v821 ev821 => ?_)
      refine g_iconst (by decide) (fun v822 kv822 => ?_)
      refine g_isub (by omega) (fun v823 ev823 => ?_)
      refine g_istore (l' := [(0, .ref 19), (1, .int v767), (2, .int v775), (3, .int v785), (4, .int v823)]) rfl rfl ?_
      refine g_nop ?_
      refine g_aload_n rfl ?_
      refine g_iload_n rfl ?_
      refine g_invvi hIH812 sx_19 rfl rfl rfl rfl (s_47 v775 H812 hIH812 hJH812) (fun v826 H824 r825 => ?_)
      obtain ⟨hIH824, hJH824, w827, w828, p829⟩ := r825
      have e830 : k1_1 = fZ H824 1 1 := e819.trans w827.symm
      have e831 : k19_7 = fZ H824 19 7 := e820.trans w828.symm
      have ie831 : k19_7.toInt = (fZ H824 19 7).toInt := by rw [← e831]
      refine g_istore (l' := [(0, .ref 19), (1, .int v767), (2, .int v775), (3, .int v785), (4, .int v823), (5, .int v826)]) rfl rfl ?_
      refine g_aload_n rfl ?_
      refine g_gfi hIH824 sx_19 rfl (fun v832 ev832 lv832 uv832 => ?_)
      have iev832 : v832.toInt = (fZ H824 19 5).toInt := by rw [← ev832]
      refine g_if_ne (fun c833 => ?_) (fun c833 => ?_)
      · exact g_ret ⟨rfl, hIH824, hJH824, (e830.symm.trans ek1_1), (e831.symm.trans ek19_7)⟩
      · refine g_aload_n rfl ?_
        refine g_gfr hIH824 sx_19 rfl ?_
        refine g_iload_n rfl ?_
        refine g_iload_n rfl ?_
        refine g_iload_n rfl ?_
        refine g_iload rfl ?_
        refine g_iload rfl ?_
        refine g_invvv hIH824 sx_11 rfl rfl rfl rfl (s_16 11 zBo_11 v767 v775 v785 (by omega) v826 (by omega) v823 H824 hIH824 hJH824 (by omega)) (fun H834 r835 => ?_)
        obtain ⟨hIH834, hJH834, w836, w837⟩ := r835
        have e838 : k1_1 = fZ H834 1 1 := e830.trans w836.symm
        have e839 : k19_7 = fZ H834 19 7 := e831.trans w837.symm
        have ie839 : k19_7.toInt = (fZ H834 19 7).toInt := by rw [← e839]
        refine g_nop ?_
        exact g_ret ⟨rfl, hIH834, hJH834, (e838.symm.trans ek1_1), (e839.symm.trans ek19_7)⟩
  · refine g_aload_n rfl ?_
    refine g_iconst (by decide) (fun v840 kv840 => ?_)
    refine g_invvv hI sx_19 rfl rfl rfl rfl (s_40 v840 (by omega) H hI hJ) (fun H841 r842 => ?_)
    obtain ⟨hIH841, hJH841, w843, w844, p845⟩ := r842
    have e846 : k1_1 = fZ H841 1 1 := ek1_1.trans w843.symm
    have e847 : k19_7 = fZ H841 19 7 := ek19_7.trans w844.symm
    have ie847 : k19_7.toInt = (fZ H841 19 7).toInt := by rw [← e847]
    refine g_nop ?_
    refine g_aload_n rfl ?_
    refine g_iconst (by decide) (fun v848 kv848 => ?_)
    refine g_iconst (by decide) (fun v849 kv849 => ?_)
    refine g_invvi hIH841 sx_19 rfl rfl rfl rfl (s_50 v848 v849 H841 hIH841 hJH841 (by omega)) (fun v852 H850 r851 => ?_)
    obtain ⟨hIH850, hJH850, w853, w854, p855, p856⟩ := r851
    have e857 : k1_1 = fZ H850 1 1 := e846.trans w853.symm
    have e858 : k19_7 = fZ H850 19 7 := e847.trans w854.symm
    have ie858 : k19_7.toInt = (fZ H850 19 7).toInt := by rw [← e858]
    refine g_pop rfl ?_
    refine g_aload_n rfl ?_
    refine g_iconst (by decide) (fun v859 kv859 => ?_)
    refine g_sipush (by decide) (fun v860 kv860 => ?_)
    refine g_invvi hIH850 sx_19 rfl rfl rfl rfl (s_48 v859 v860 H850 hIH850 hJH850) (fun v863 H861 r862 => ?_)
    obtain ⟨hIH861, hJH861, w864, w865, p866⟩ := r862
    have e867 : k1_1 = fZ H861 1 1 := e857.trans w864.symm
    have e868 : k19_7 = fZ H861 19 7 := e858.trans w865.symm
    have ie868 : k19_7.toInt = (fZ H861 19 7).toInt := by rw [← e868]
    refine g_istore_n (l' := [(0, .ref 19), (1, .int v863)]) rfl rfl ?_
    refine g_aload_n rfl ?_
    refine g_invvi hIH861 sx_19 rfl rfl rfl rfl (s_46 H861 hIH861 hJH861) (fun v871 H869 r870 => ?_)
    obtain ⟨hIH869, hJH869, bv871, w872, w873, p874⟩ := r870
    have e875 : k1_1 = fZ H869 1 1 := e867.trans w872.symm
    have e876 : k19_7 = fZ H869 19 7 := e868.trans w873.symm
    have ie876 : k19_7.toInt = (fZ H869 19 7).toInt := by rw [← e876]
    refine g_istore_n (l' := [(0, .ref 19), (1, .int v863), (2, .int v871)]) rfl rfl ?_
    refine g_aload_n rfl ?_
    refine g_iconst (by decide) (fun v877 kv877 => ?_)
    refine g_bipush (by decide) (fun v878 kv878 => ?_)
    refine g_invvi hIH869 sx_19 rfl rfl rfl rfl (s_48 v877 v878 H869 hIH869 hJH869) (fun v881 H879 r880 => ?_)
    obtain ⟨hIH879, hJH879, w882, w883, p884⟩ := r880
    have e885 : k1_1 = fZ H879 1 1 := e875.trans w882.symm
    have e886 : k19_7 = fZ H879 19 7 := e876.trans w883.symm
    have ie886 : k19_7.toInt = (fZ H879 19 7).toInt := by rw [← e886]
    refine g_istore_n (l' := [(0, .ref 19), (1, .int v863), (2, .int v871), (3, .int v881)]) rfl rfl ?_
    refine g_iconst (by decide) (fun v887 kv887 => ?_)
    refine g_istore (l' := [(0, .ref 19), (1, .int v863), (2, .int v871), (3, .int v881), (4, .int v887)]) rfl rfl ?_
    refine g_iload_n rfl ?_
    refine g_if_ne (fun c888 => ?_) (fun c888 => ?_)
    · refine g_aload_n rfl ?_
      refine g_iload_n rfl ?_
      refine g_invvi hIH879 sx_19 rfl rfl rfl rfl (s_47 v871 H879 hIH879 hJH879) (fun v891 H889 r890 => ?_)
      obtain ⟨hIH889, hJH889, w892, w893, p894⟩ := r890
      have e895 : k1_1 = fZ H889 1 1 := e885.trans w892.symm
      have e896 : k19_7 = fZ H889 19 7 := e886.trans w893.symm
      have ie896 : k19_7.toInt = (fZ H889 19 7).toInt := by rw [← e896]
      refine g_istore (l' := [(0, .ref 19), (1, .int v863), (2, .int v871), (3, .int v881), (4, .int v887), (5, .int v891)]) rfl rfl ?_
      refine g_aload_n rfl ?_
      refine g_gfi hIH889 sx_19 rfl (fun v897 ev897 lv897 uv897 => ?_)
      have iev897 : v897.toInt = (fZ H889 19 5).toInt := by rw [← ev897]
      refine g_if_ne (fun c898 => ?_) (fun c898 => ?_)
      · exact g_ret ⟨rfl, hIH889, hJH889, (e895.symm.trans ek1_1), (e896.symm.trans ek19_7)⟩
      · refine g_aload_n rfl ?_
        refine g_gfr hIH889 sx_19 rfl ?_
        refine g_iload_n rfl ?_
        refine g_iload_n rfl ?_
        refine g_iload_n rfl ?_
        refine g_iload rfl ?_
        refine g_iload rfl ?_
        refine g_invvv hIH889 sx_11 rfl rfl rfl rfl (s_16 11 zBo_11 v863 v871 v881 (by omega) v891 (by omega) v887 H889 hIH889 hJH889 (by omega)) (fun H899 r900 => ?_)
        obtain ⟨hIH899, hJH899, w901, w902⟩ := r900
        have e903 : k1_1 = fZ H899 1 1 := e895.trans w901.symm
        have e904 : k19_7 = fZ H899 19 7 := e896.trans w902.symm
        have ie904 : k19_7.toInt = (fZ H899 19 7).toInt := by rw [← e904]
        refine g_nop ?_
        exact g_ret ⟨rfl, hIH899, hJH899, (e903.symm.trans ek1_1), (e904.symm.trans ek19_7)⟩
    · refine g_iconst (by decide) (fun v905 kv905 => ?_)
      refine g_aload_n rfl ?_
      refine g_iconst (by decide) (fun v906 kv906 => ?_)
      refine g_bipush (by decide) (fun v907 kv907 => ?_)
      refine g_invvi hIH879 sx_19 rfl rfl rfl rfl (s_50 v906 v907 H879 hIH879 hJH879 (by omega)) (fun v910 H908 r909 => ?_)
      obtain ⟨hIH908, hJH908, w911, w912, p913, p914⟩ := r909
      have e915 : k1_1 = fZ H908 1 1 := e885.trans w911.symm
      have e916 : k19_7 = fZ H908 19 7 := e886.trans w912.symm
      have ie916 : k19_7.toInt = (fZ H908 19 7).toInt := by rw [← e916]
      refine g_iadd (by omega) (fun v917 ev917 => ?_)
      refine g_iconst (by decide) (fun v918 kv918 => ?_)
      refine g_isub (by omega) (fun v919 ev919 => ?_)
      refine g_istore (l' := [(0, .ref 19), (1, .int v863), (2, .int v871), (3, .int v881), (4, .int v919)]) rfl rfl ?_
      refine g_nop ?_
      refine g_aload_n rfl ?_
      refine g_iload_n rfl ?_
      refine g_invvi hIH908 sx_19 rfl rfl rfl rfl (s_47 v871 H908 hIH908 hJH908) (fun v922 H920 r921 => ?_)
      obtain ⟨hIH920, hJH920, w923, w924, p925⟩ := r921
      have e926 : k1_1 = fZ H920 1 1 := e915.trans w923.symm
      have e927 : k19_7 = fZ H920 19 7 := e916.trans w924.symm
      have ie927 : k19_7.toInt = (fZ H920 19 7).toInt := by rw [← e927]
      refine g_istore (l' := [(0, .ref 19), (1, .int v863), (2, .int v871), (3, .int v881), (4, .int v919), (5, .int v922)]) rfl rfl ?_
      refine g_aload_n rfl ?_
      refine g_gfi hIH920 sx_19 rfl (fun v928 ev928 lv928 uv928 => ?_)
      have iev928 : v928.toInt = (fZ H920 19 5).toInt := by rw [← ev928]
      refine g_if_ne (fun c929 => ?_) (fun c929 => ?_)
      · exact g_ret ⟨rfl, hIH920, hJH920, (e926.symm.trans ek1_1), (e927.symm.trans ek19_7)⟩
      · refine g_aload_n rfl ?_
        refine g_gfr hIH920 sx_19 rfl ?_
        refine g_iload_n rfl ?_
        refine g_iload_n rfl ?_
        refine g_iload_n rfl ?_
        refine g_iload rfl ?_
        refine g_iload rfl ?_
        refine g_invvv hIH920 sx_11 rfl rfl rfl rfl (s_16 11 zBo_11 v863 v871 v881 (by omega) v922 (by omega) v919 H920 hIH920 hJH920 (by omega)) (fun H930 r931 => ?_)
        obtain ⟨hIH930, hJH930, w932, w933⟩ := r931
        have e934 : k1_1 = fZ H930 1 1 := e926.trans w932.symm
        have e935 : k19_7 = fZ H930 19 7 := e927.trans w933.symm
        have ie935 : k19_7.toInt = (fZ H930 19 7).toInt := by rw [← e935]
        refine g_nop ?_
        exact g_ret ⟨rfl, hIH930, hJH930, (e934.symm.trans ek1_1), (e935.symm.trans ek19_7)⟩
set_option maxRecDepth 4000 in
set_option maxHeartbeats 4000000 in
/-- X4.readLine -/
theorem s_41 (H : mzH) (hI : gI SX H) (hJ : JX H) : gCall 41 [.ref 19] H (gRv (fun H' => gI SX H' ∧ JX H' ∧ fZ H' 1 1 = fZ H 1 1 ∧ fZ H' 19 7 = fZ H 19 7)) := by
  obtain ⟨k1_1, ek1_1⟩ : ∃ z, z = fZ H 1 1 := ⟨_, rfl⟩
  have ik1_1 : k1_1.toInt = (fZ H 1 1).toInt := by rw [← ek1_1]
  have bk1_1 : 0 ≤ k1_1.toInt ∧ k1_1.toInt ≤ 900 := by rw [ek1_1]; exact fZ_of hI sx_1 rfl
  obtain ⟨k19_7, ek19_7⟩ : ∃ z, z = fZ H 19 7 := ⟨_, rfl⟩
  have ik19_7 : k19_7.toInt = (fZ H 19 7).toInt := by rw [← ek19_7]
  obtain ⟨k19_5, ek19_5⟩ : ∃ z, z = fZ H 19 5 := ⟨_, rfl⟩
  have ik19_5 : k19_5.toInt = (fZ H 19 5).toInt := by rw [← ek19_5]
  obtain ⟨k19_3, ek19_3⟩ : ∃ z, z = fZ H 19 3 := ⟨_, rfl⟩
  have ik19_3 : k19_3.toInt = (fZ H 19 3).toInt := by rw [← ek19_3]
  refine gG_call [(0, .ref 19)] ⟨rfl, trivial⟩ ?_
  show gG 1 zB_41 (mzBlk zB_41 0) [(0, .ref 19)] [] H 0 0 _
  refine g_aload_n rfl ?_
  refine g_gfk hI sx_19 rfl ek19_3 ?_
  refine g_sw (by decide) (fun c353 => ?_) ⟨fun c353 => ?_, fun c353 => ?_, fun c353 => ?_, fun c353 => ?_, trivial⟩
  · refine g_aload_n rfl ?_
    refine g_iconst (by decide) (fun v354 kv354 => ?_)
    refine g_invvv hI sx_19 rfl rfl rfl rfl (s_40 v354 (by omega) H hI hJ) (fun H355 r356 => ?_)
    obtain ⟨hIH355, hJH355, w357, w358, p359⟩ := r356
    have e360 : k1_1 = fZ H355 1 1 := ek1_1.trans w357.symm
    have e361 : k19_7 = fZ H355 19 7 := ek19_7.trans w358.symm
    have ie361 : k19_7.toInt = (fZ H355 19 7).toInt := by rw [← e361]
    refine g_nop ?_
    refine g_aload_n rfl ?_
    refine g_bipush (by decide) (fun v362 kv362 => ?_)
    refine g_bipush (by decide) (fun v363 kv363 => ?_)
    refine g_invvi hIH355 sx_19 rfl rfl rfl rfl (s_50 v362 v363 H355 hIH355 hJH355 (by omega)) (fun v366 H364 r365 => ?_)
    obtain ⟨hIH364, hJH364, w367, w368, p369, p370⟩ := r365
    have e371 : k1_1 = fZ H364 1 1 := e360.trans w367.symm
    have e372 : k19_7 = fZ H364 19 7 := e361.trans w368.symm
    have ie372 : k19_7.toInt = (fZ H364 19 7).toInt := by rw [← e372]
    refine g_pop rfl ?_
    exact g_ret ⟨rfl, hIH364, hJH364, (e371.symm.trans ek1_1), (e372.symm.trans ek19_7)⟩
  · refine g_aload_n rfl ?_
    refine g_invvv hI sx_19 rfl rfl rfl rfl (s_42 H hI hJ) (fun H373 r374 => ?_)
    obtain ⟨hIH373, hJH373, w375, w376⟩ := r374
    have e377 : k1_1 = fZ H373 1 1 := ek1_1.trans w375.symm
    have e378 : k19_7 = fZ H373 19 7 := ek19_7.trans w376.symm
    have ie378 : k19_7.toInt = (fZ H373 19 7).toInt := by rw [← e378]
    refine g_goto ?_
    refine g_aload_n rfl ?_
    refine g_bipush (by decide) (fun v379 kv379 => ?_)
    refine g_bipush (by decide) (fun v380 kv380 => ?_)
    refine g_invvi hIH373 sx_19 rfl rfl rfl rfl (s_50 v379 v380 H373 hIH373 hJH373 (by omega)) (fun v383 H381 r382 => ?_)
    obtain ⟨hIH381, hJH381, w384, w385, p386, p387⟩ := r382
    have e388 : k1_1 = fZ H381 1 1 := e377.trans w384.symm
    have e389 : k19_7 = fZ H381 19 7 := e378.trans w385.symm
    have ie389 : k19_7.toInt = (fZ H381 19 7).toInt := by rw [← e389]
    refine g_pop rfl ?_
    exact g_ret ⟨rfl, hIH381, hJH381, (e388.symm.trans ek1_1), (e389.symm.trans ek19_7)⟩
  · refine g_aload_n rfl ?_
    refine g_invvv hI sx_19 rfl rfl rfl rfl (s_43 H hI hJ) (fun H390 r391 => ?_)
    obtain ⟨hIH390, hJH390, w392, w393⟩ := r391
    have e394 : k1_1 = fZ H390 1 1 := ek1_1.trans w392.symm
    have e395 : k19_7 = fZ H390 19 7 := ek19_7.trans w393.symm
    have ie395 : k19_7.toInt = (fZ H390 19 7).toInt := by rw [← e395]
    refine g_goto ?_
    refine g_aload_n rfl ?_
    refine g_bipush (by decide) (fun v396 kv396 => ?_)
    refine g_bipush (by decide) (fun v397 kv397 => ?_)
    refine g_invvi hIH390 sx_19 rfl rfl rfl rfl (s_50 v396 v397 H390 hIH390 hJH390 (by omega)) (fun v400 H398 r399 => ?_)
    obtain ⟨hIH398, hJH398, w401, w402, p403, p404⟩ := r399
    have e405 : k1_1 = fZ H398 1 1 := e394.trans w401.symm
    have e406 : k19_7 = fZ H398 19 7 := e395.trans w402.symm
    have ie406 : k19_7.toInt = (fZ H398 19 7).toInt := by rw [← e406]
    refine g_pop rfl ?_
    exact g_ret ⟨rfl, hIH398, hJH398, (e405.symm.trans ek1_1), (e406.symm.trans ek19_7)⟩
  · refine g_aload_n rfl ?_
    refine g_invvv hI sx_19 rfl rfl rfl rfl (s_44 H hI hJ) (fun H407 r408 => ?_)
    obtain ⟨hIH407, hJH407, w409, w410⟩ := r408
    have e411 : k1_1 = fZ H407 1 1 := ek1_1.trans w409.symm
    have e412 : k19_7 = fZ H407 19 7 := ek19_7.trans w410.symm
    have ie412 : k19_7.toInt = (fZ H407 19 7).toInt := by rw [← e412]
    refine g_goto ?_
    refine g_aload_n rfl ?_
    refine g_bipush (by decide) (fun v413 kv413 => ?_)
    refine g_bipush (by decide) (fun v414 kv414 => ?_)
    refine g_invvi hIH407 sx_19 rfl rfl rfl rfl (s_50 v413 v414 H407 hIH407 hJH407 (by omega)) (fun v417 H415 r416 => ?_)
    obtain ⟨hIH415, hJH415, w418, w419, p420, p421⟩ := r416
    have e422 : k1_1 = fZ H415 1 1 := e411.trans w418.symm
    have e423 : k19_7 = fZ H415 19 7 := e412.trans w419.symm
    have ie423 : k19_7.toInt = (fZ H415 19 7).toInt := by rw [← e423]
    refine g_pop rfl ?_
    exact g_ret ⟨rfl, hIH415, hJH415, (e422.symm.trans ek1_1), (e423.symm.trans ek19_7)⟩
  · refine g_aload_n rfl ?_
    refine g_invvv hI sx_19 rfl rfl rfl rfl (s_45 H hI hJ) (fun H424 r425 => ?_)
    obtain ⟨hIH424, hJH424, w426, w427⟩ := r425
    have e428 : k1_1 = fZ H424 1 1 := ek1_1.trans w426.symm
    have e429 : k19_7 = fZ H424 19 7 := ek19_7.trans w427.symm
    have ie429 : k19_7.toInt = (fZ H424 19 7).toInt := by rw [← e429]
    refine g_goto ?_
    refine g_aload_n rfl ?_
    refine g_bipush (by decide) (fun v430 kv430 => ?_)
    refine g_bipush (by decide) (fun v431 kv431 => ?_)
    refine g_invvi hIH424 sx_19 rfl rfl rfl rfl (s_50 v430 v431 H424 hIH424 hJH424 (by omega)) (fun v434 H432 r433 => ?_)
    obtain ⟨hIH432, hJH432, w435, w436, p437, p438⟩ := r433
    have e439 : k1_1 = fZ H432 1 1 := e428.trans w435.symm
    have e440 : k19_7 = fZ H432 19 7 := e429.trans w436.symm
    have ie440 : k19_7.toInt = (fZ H432 19 7).toInt := by rw [← e440]
    refine g_pop rfl ?_
    exact g_ret ⟨rfl, hIH432, hJH432, (e439.symm.trans ek1_1), (e440.symm.trans ek19_7)⟩
set_option maxRecDepth 4000 in
set_option maxHeartbeats 4000000 in
/-- X4.read -/
theorem s_38 (a1 : Int32) (a2 : Int32) (ha2 : 0 ≤ a2.toInt ∧ a2.toInt ≤ 1) (H : mzH) (hI : gI SX H) (hJ : JX H) : gCall 38 [.ref 19, .int a1, .int a2] H (gRi (fun v H' => gI SX H' ∧ JX H' ∧ (0 ≤ v.toInt ∧ v.toInt ≤ 1) ∧ fZ H' 1 1 = fZ H 1 1)) := by
  obtain ⟨k1_1, ek1_1⟩ : ∃ z, z = fZ H 1 1 := ⟨_, rfl⟩
  have ik1_1 : k1_1.toInt = (fZ H 1 1).toInt := by rw [← ek1_1]
  have bk1_1 : 0 ≤ k1_1.toInt ∧ k1_1.toInt ≤ 900 := by rw [ek1_1]; exact fZ_of hI sx_1 rfl
  refine gG_call [(0, .ref 19), (1, .int a1), (2, .int a2)] ⟨rfl, rfl, rfl, trivial⟩ ?_
  show gG 3 zB_38 (mzBlk zB_38 0) [(0, .ref 19), (1, .int a1), (2, .int a2)] [] H 0 0 _
  refine g_aload_n rfl ?_
  refine g_gfr hI sx_19 rfl ?_
  refine g_iload_n rfl ?_
  refine g_invvv hI sx_20 rfl rfl rfl rfl (s_73 a1 H hI hJ) (fun H337 r338 => ?_)
  obtain ⟨hIH337, hJH337, w339⟩ := r338
  have e340 : k1_1 = fZ H337 1 1 := ek1_1.trans w339.symm
  refine g_aload_n rfl ?_
  refine g_iconst (by decide) (fun v341 kv341 => ?_)
  refine g_pfi hIH337 sx_19 rfl (gz_any _) (fun H342 eH342 hIH342 => ?_)
  have hJH342 : JX H342 := JX_sF eH342 hJH337
  have e343 : k1_1 = fZ H342 1 1 := by rw [eH342, fZ_sF_nc (by omega)]; exact e340
  have jj344_7 : (fZ H342 19 7).toInt = (fZ H337 19 7).toInt := by rw [eH342, fZ_sF_ne (by decide)]
  refine g_aload_n rfl ?_
  refine g_iconst (by decide) (fun v345 kv345 => ?_)
  refine g_pfi hIH342 sx_19 rfl (gz_any _) (fun H346 eH346 hIH346 => ?_)
  have hJH346 : JX H346 := JX_sF eH346 hJH342
  have e347 : k1_1 = fZ H346 1 1 := by rw [eH346, fZ_sF_nc (by omega)]; exact e343
  have jj348_7 : (fZ H346 19 7).toInt = (fZ H342 19 7).toInt := by rw [eH346, fZ_sF_ne (by decide)]
  refine g_aload_n rfl ?_
  refine g_iconst (by decide) (fun v349 kv349 => ?_)
  refine g_pfi hIH346 sx_19 rfl (gz_any _) (fun H350 eH350 hIH350 => ?_)
  have hJH350 : JX H350 := JX_sF eH350 hJH346
  have e351 : k1_1 = fZ H350 1 1 := by rw [eH350, fZ_sF_nc (by omega)]; exact e347
  have e352 : v349 = fZ H350 19 7 := by rw [eH350, fZ_sF_eq hIH346 sx_19 rfl]
  have ie352 : v349.toInt = (fZ H350 19 7).toInt := by rw [← e352]
  refine g_aload_n rfl ?_
  refine g_iconst (by decide) (fun v353 kv353 => ?_)
  refine g_invvv hIH350 sx_19 rfl rfl rfl rfl (s_39 v353 (by omega) H350 hIH350 hJH350) (fun H354 r355 => ?_)
  obtain ⟨hIH354, hJH354, w356, w357, w358⟩ := r355
  have e359 : k1_1 = fZ H354 1 1 := e351.trans w356.symm
  have e360 : v349 = fZ H354 19 7 := e352.trans w357.symm
  have ie360 : v349.toInt = (fZ H354 19 7).toInt := by rw [← e360]
  refine g_nop ?_
  have L363 : ∀ (N : Nat) (H361 : mzH), gI SX H361 → JX H361 → k1_1 = fZ H361 1 1 → (900 - (fZ H361 19 7).toInt).toNat < N → gG 3 zB_38 (mzBlk zB_38 1) [(0, .ref 19), (1, .int a1), (2, .int a2)] [] H361 0 0 (gRi (fun v H' => gI SX H' ∧ JX H' ∧ (0 ≤ v.toInt ∧ v.toInt ≤ 1) ∧ fZ H' 1 1 = fZ H 1 1)) := by
    intro N
    induction N with
    | zero => intro H361 hIH361 hJH361 e362 hmL363; exact absurd hmL363 (Nat.not_lt_zero _)
    | succ N ihL363 =>
      intro H361 hIH361 hJH361 e362 hmL363
      refine g_aload_n rfl ?_
      refine g_gfi hIH361 sx_19 rfl (fun v364 ev364 lv364 uv364 => ?_)
      have iev364 : v364.toInt = (fZ H361 19 7).toInt := by rw [← ev364]
      refine g_sipush (by decide) (fun v365 kv365 => ?_)
      refine g_if2_ge (fun c366 => ?_) (fun c366 => ?_)
      · refine g_aload_n rfl ?_
        refine g_gfi hIH361 sx_19 rfl (fun v367 ev367 lv367 uv367 => ?_)
        refine g_if_ne (fun c368 => ?_) (fun c368 => ?_)
        · refine g_iconst (by decide) (fun v369 kv369 => ?_)
          refine g_nop ?_
          exact g_zret (by omega) ⟨_, rfl, hIH361, hJH361, (by omega), (e362.symm.trans ek1_1)⟩
        · refine g_iconst (by decide) (fun v370 kv370 => ?_)
          refine g_goto ?_
          exact g_zret (by omega) ⟨_, rfl, hIH361, hJH361, (by omega), (e362.symm.trans ek1_1)⟩
      · refine g_aload_n rfl ?_
        refine g_gfi hIH361 sx_19 rfl (fun v371 ev371 lv371 uv371 => ?_)
        refine g_if_ne (fun c372 => ?_) (fun c372 => ?_)
        · refine g_aload_n rfl ?_
          refine g_gfi hIH361 sx_19 rfl (fun v373 ev373 lv373 uv373 => ?_)
          refine g_if_ne (fun c374 => ?_) (fun c374 => ?_)
          · refine g_iconst (by decide) (fun v375 kv375 => ?_)
            refine g_nop ?_
            exact g_zret (by omega) ⟨_, rfl, hIH361, hJH361, (by omega), (e362.symm.trans ek1_1)⟩
          · refine g_iconst (by decide) (fun v376 kv376 => ?_)
            refine g_goto ?_
            exact g_zret (by omega) ⟨_, rfl, hIH361, hJH361, (by omega), (e362.symm.trans ek1_1)⟩
        · refine g_aload_n rfl ?_
          refine g_gfi hIH361 sx_19 rfl (fun v377 ev377 lv377 uv377 => ?_)
          refine g_bipush (by decide) (fun v378 kv378 => ?_)
          refine g_if2_eq (fun c379 => ?_) (fun c379 => ?_)
          · refine g_aload_n rfl ?_
            refine g_gfi hIH361 sx_19 rfl (fun v380 ev380 lv380 uv380 => ?_)
            refine g_if_ne (fun c381 => ?_) (fun c381 => ?_)
            · refine g_iconst (by decide) (fun v382 kv382 => ?_)
              refine g_nop ?_
              exact g_zret (by omega) ⟨_, rfl, hIH361, hJH361, (by omega), (e362.symm.trans ek1_1)⟩
            · refine g_iconst (by decide) (fun v383 kv383 => ?_)
              refine g_goto ?_
              exact g_zret (by omega) ⟨_, rfl, hIH361, hJH361, (by omega), (e362.symm.trans ek1_1)⟩
          · refine g_iload_n rfl ?_
            refine g_if_eq (fun c384 => ?_) (fun c384 => ?_)
            · refine g_aload_n rfl ?_
              refine g_invvv hIH361 sx_19 rfl rfl rfl rfl (s_41 H361 hIH361 hJH361) (fun H385 r386 => ?_)
              obtain ⟨hIH385, hJH385, w387, w388⟩ := r386
              have e389 : k1_1 = fZ H385 1 1 := e362.trans w387.symm
              have e390 : v364 = fZ H385 19 7 := ev364.trans w388.symm
              have ie390 : v364.toInt = (fZ H385 19 7).toInt := by rw [← e390]
              refine g_aload_n rfl ?_
              refine g_dup rfl ?_
              refine g_gfk hIH385 sx_19 rfl e390 ?_
              refine g_iconst (by decide) (fun v391 kv391 => ?_)
              refine g_iadd (by have := gz_any v364; omega) (fun v392 ev392 => ?_)
              refine g_pfi hIH385 sx_19 rfl (gz_any _) (fun H393 eH393 hIH393 => ?_)
              have hJH393 : JX H393 := JX_sF eH393 hJH385
              have e394 : k1_1 = fZ H393 1 1 := by rw [eH393, fZ_sF_nc (by omega)]; exact e389
              have e395 : v392 = fZ H393 19 7 := by rw [eH393, fZ_sF_eq hIH385 sx_19 rfl]
              have ie395 : v392.toInt = (fZ H393 19 7).toInt := by rw [← e395]
              refine g_goto ?_
              exact ihL363 H393 hIH393 hJH393 e394 (by omega)
            · refine g_aload_n rfl ?_
              refine g_gfi hIH361 sx_19 rfl (fun v396 ev396 lv396 uv396 => ?_)
              refine g_iconst (by decide) (fun v397 kv397 => ?_)
              refine g_if2_eq (fun c398 => ?_) (fun c398 => ?_)
              · refine g_aload_n rfl ?_
                refine g_invvv hIH361 sx_19 rfl rfl rfl rfl (s_41 H361 hIH361 hJH361) (fun H399 r400 => ?_)
                obtain ⟨hIH399, hJH399, w401, w402⟩ := r400
                have e403 : k1_1 = fZ H399 1 1 := e362.trans w401.symm
                have e404 : v364 = fZ H399 19 7 := ev364.trans w402.symm
                have ie404 : v364.toInt = (fZ H399 19 7).toInt := by rw [← e404]
                refine g_aload_n rfl ?_
                refine g_dup rfl ?_
                refine g_gfk hIH399 sx_19 rfl e404 ?_
                refine g_iconst (by decide) (fun v405 kv405 => ?_)
                refine g_iadd (by have := gz_any v364; omega) (fun v406 ev406 => ?_)
                refine g_pfi hIH399 sx_19 rfl (gz_any _) (fun H407 eH407 hIH407 => ?_)
                have hJH407 : JX H407 := JX_sF eH407 hJH399
                have e408 : k1_1 = fZ H407 1 1 := by rw [eH407, fZ_sF_nc (by omega)]; exact e403
                have e409 : v406 = fZ H407 19 7 := by rw [eH407, fZ_sF_eq hIH399 sx_19 rfl]
                have ie409 : v406.toInt = (fZ H407 19 7).toInt := by rw [← e409]
                refine g_goto ?_
                exact ihL363 H407 hIH407 hJH407 e408 (by omega)
              · refine g_aload_n rfl ?_
                refine g_iconst (by decide) (fun v410 kv410 => ?_)
                refine g_invvv hIH361 sx_19 rfl rfl rfl rfl (s_40 v410 (by omega) H361 hIH361 hJH361) (fun H411 r412 => ?_)
                obtain ⟨hIH411, hJH411, w413, w414, p415⟩ := r412
                have e416 : k1_1 = fZ H411 1 1 := e362.trans w413.symm
                have e417 : v364 = fZ H411 19 7 := ev364.trans w414.symm
                have ie417 : v364.toInt = (fZ H411 19 7).toInt := by rw [← e417]
                refine g_nop ?_
                refine g_aload_n rfl ?_
                refine g_invvv hIH411 sx_19 rfl rfl rfl rfl (s_41 H411 hIH411 hJH411) (fun H418 r419 => ?_)
                obtain ⟨hIH418, hJH418, w420, w421⟩ := r419
                have e422 : k1_1 = fZ H418 1 1 := e416.trans w420.symm
                have e423 : v364 = fZ H418 19 7 := e417.trans w421.symm
                have ie423 : v364.toInt = (fZ H418 19 7).toInt := by rw [← e423]
                refine g_aload_n rfl ?_
                refine g_dup rfl ?_
                refine g_gfk hIH418 sx_19 rfl e423 ?_
                refine g_iconst (by decide) (fun v424 kv424 => ?_)
                refine g_iadd (by have := gz_any v364; omega) (fun v425 ev425 => ?_)
                refine g_pfi hIH418 sx_19 rfl (gz_any _) (fun H426 eH426 hIH426 => ?_)
                have hJH426 : JX H426 := JX_sF eH426 hJH418
                have e427 : k1_1 = fZ H426 1 1 := by rw [eH426, fZ_sF_nc (by omega)]; exact e422
                have e428 : v425 = fZ H426 19 7 := by rw [eH426, fZ_sF_eq hIH418 sx_19 rfl]
                have ie428 : v425.toInt = (fZ H426 19 7).toInt := by rw [← e428]
                refine g_goto ?_
                exact ihL363 H426 hIH426 hJH426 e427 (by omega)
  exact L363 _ H354 hIH354 hJH354 e359 (Nat.lt_succ_self _)
set_option maxRecDepth 4000 in
set_option maxHeartbeats 4000000 in
/-- X5.step -/
theorem s_53 (a1 : Int32) (ha1 : 0 ≤ a1.toInt ∧ a1.toInt ≤ 59) (H : mzH) (hI : gI SX H) (hJ : JX H) : gCall 53 [.ref 24, .int a1] H (gRi (fun v H' => gI SX H' ∧ JX H' ∧ fZ H' 1 1 = fZ H 1 1 ∧ kpX H H')) := by
  obtain ⟨k1_1, ek1_1⟩ : ∃ z, z = fZ H 1 1 := ⟨_, rfl⟩
  have ik1_1 : k1_1.toInt = (fZ H 1 1).toInt := by rw [← ek1_1]
  have bk1_1 : 0 ≤ k1_1.toInt ∧ k1_1.toInt ≤ 900 := by rw [ek1_1]; exact fZ_of hI sx_1 rfl
  have mkfr : kpX H H := kpX_r
  refine gG_call [(0, .ref 24), (1, .int a1)] ⟨rfl, rfl, trivial⟩ ?_
  show gG 2 zB_53 (mzBlk zB_53 0) [(0, .ref 24), (1, .int a1)] [] H 0 0 _
  refine g_aload_n rfl ?_
  refine g_gfr hI sx_24 rfl ?_
  refine g_aload_n rfl ?_
  refine g_gfr hI sx_24 rfl ?_
  refine g_aload_n rfl ?_
  refine g_gfr hI sx_24 rfl ?_
  refine g_gfr hI sx_25 rfl ?_
  refine g_iload_n rfl ?_
  refine g_iaload hI sx_27 rfl (by omega) (fun v45 ev45 lv45 uv45 => ?_)
  refine g_aload_n rfl ?_
  refine g_gfr hI sx_24 rfl ?_
  refine g_iload_n rfl ?_
  refine g_invvi hI sx_25 rfl rfl rfl rfl (s_27 25 zCo_25 a1 (by omega) H hI hJ) (fun v48 H46 r47 => ?_)
  obtain rfl := r47
  refine g_invvi hI sx_28 rfl rfl rfl rfl (s_93 28 zWo_28 3 zBo_3 v45 (by omega) v48 H hI hJ) (fun v51 H49 r50 => ?_)
  obtain ⟨hIH49, hJH49, w52, m53⟩ := r50
  have e54 : k1_1 = fZ H49 1 1 := ek1_1.trans w52.symm
  have m55 : kpX H H49 := kpX_t mkfr m53
  exact g_iret ⟨_, rfl, hIH49, hJH49, (e54.symm.trans ek1_1), m55⟩
set_option maxRecDepth 4000 in
set_option maxHeartbeats 4000000 in
/-- X5.settle -/
theorem s_52 (H : mzH) (hI : gI SX H) (hJ : JX H) : gCall 52 [.ref 24] H (gRv (fun H' => gI SX H' ∧ JX H' ∧ fZ H' 1 1 = fZ H 1 1 ∧ kpB H H')) := by
  obtain ⟨k1_1, ek1_1⟩ : ∃ z, z = fZ H 1 1 := ⟨_, rfl⟩
  have ik1_1 : k1_1.toInt = (fZ H 1 1).toInt := by rw [← ek1_1]
  have bk1_1 : 0 ≤ k1_1.toInt ∧ k1_1.toInt ≤ 900 := by rw [ek1_1]; exact fZ_of hI sx_1 rfl
  have mkfr : kpB H H := kpB_r
  refine gG_call [(0, .ref 24)] ⟨rfl, trivial⟩ ?_
  show gG 2 zB_52 (mzBlk zB_52 0) [(0, .ref 24)] [] H 0 0 _
  refine g_aload_n rfl ?_
  refine g_gfr hI sx_24 rfl ?_
  refine g_aload_n rfl ?_
  refine g_gfr hI sx_24 rfl ?_
  refine g_invvv hI sx_25 rfl rfl rfl rfl (s_24 25 zCo_25 3 zBo_3 H hI hJ) (fun H259 r260 => ?_)
  obtain ⟨hIH259, hJH259, w261, m262⟩ := r260
  have e263 : k1_1 = fZ H259 1 1 := ek1_1.trans w261.symm
  have m264 : kpB H H259 := kpB_t mkfr (kpB_N (by decide) m262)
  refine g_aload_n rfl ?_
  refine g_gfr hIH259 sx_24 rfl ?_
  refine g_invvv hIH259 sx_25 rfl rfl rfl rfl (s_25 25 zCo_25 H259 hIH259 hJH259) (fun H265 r266 => ?_)
  obtain ⟨hIH265, hJH265, w267, m268⟩ := r266
  have e269 : k1_1 = fZ H265 1 1 := e263.trans w267.symm
  have m270 : kpB H H265 := kpB_t m264 (kpB_N (by decide) m268)
  refine g_aload_n rfl ?_
  refine g_gfr hIH265 sx_24 rfl ?_
  refine g_invvv hIH265 sx_28 rfl rfl rfl rfl (s_83 28 zWo_28 H265 hIH265 hJH265) (fun H271 r272 => ?_)
  obtain ⟨hIH271, hJH271, w273, m274⟩ := r272
  have e275 : k1_1 = fZ H271 1 1 := e269.trans w273.symm
  have m276 : kpB H H271 := kpB_t m270 (kpB_X m274)
  refine g_iconst (by decide) (fun v277 kv277 => ?_)
  refine g_istore_n (l' := [(0, .ref 24), (1, .int v277)]) rfl rfl ?_
  refine g_nop ?_
  have L282 : ∀ (N : Nat) (v278 : Int32) (H279 : mzH), gI SX H279 → JX H279 → k1_1 = fZ H279 1 1 → kpB H H279 → (0 ≤ v278.toInt ∧ v278.toInt ≤ 60) → (60 - v278.toInt).toNat < N → gG 2 zB_52 (mzBlk zB_52 1) [(0, .ref 24), (1, .int v278)] [] H279 0 0 (gRv (fun H' => gI SX H' ∧ JX H' ∧ fZ H' 1 1 = fZ H 1 1 ∧ kpB H H')) := by
    intro N
    induction N with
    | zero => intro v278 H279 hIH279 hJH279 e280 m281 bv278 hmL282; exact absurd hmL282 (Nat.not_lt_zero _)
    | succ N ihL282 =>
      intro v278 H279 hIH279 hJH279 e280 m281 bv278 hmL282
      refine g_iload_n rfl ?_
      refine g_aload_n rfl ?_
      refine g_gfr hIH279 sx_24 rfl ?_
      refine g_gfi hIH279 sx_25 rfl (fun v283 ev283 lv283 uv283 => ?_)
      refine g_if2_ge (fun c284 => ?_) (fun c284 => ?_)
      · exact g_ret ⟨rfl, hIH279, hJH279, (e280.symm.trans ek1_1), m281⟩
      · refine g_aload_n rfl ?_
        refine g_gfr hIH279 sx_24 rfl ?_
        refine g_aload_n rfl ?_
        refine g_gfr hIH279 sx_24 rfl ?_
        refine g_gfr hIH279 sx_25 rfl ?_
        refine g_iload_n rfl ?_
        refine g_iaload hIH279 sx_27 rfl (by omega) (fun v285 ev285 lv285 uv285 => ?_)
        refine g_aload_n rfl ?_
        refine g_iload_n rfl ?_
        refine g_invvi hIH279 sx_24 rfl rfl rfl rfl (s_53 v278 (by omega) H279 hIH279 hJH279) (fun v288 H286 r287 => ?_)
        obtain ⟨hIH286, hJH286, w289, m290⟩ := r287
        have e291 : k1_1 = fZ H286 1 1 := e280.trans w289.symm
        have m292 : kpB H H286 := kpB_t m281 (kpB_X m290)
        refine g_iastore hIH286 sx_42 (by omega) (gz_any _) (fun H293 eH293 hIH293 => ?_)
        have hJH293 : JX H293 := JX_sA (by omega) eH293 hJH286
        have e294 : k1_1 = fZ H293 1 1 := by rw [eH293, fZ_sA]; exact e291
        have m295 : kpB H H293 := kpB_A m292 eH293 (by omega)
        refine g_iinc (l' := (fun v296 => [(0, .ref 24), (1, .int v296)])) rfl rfl (by decide) (by omega) (fun _ => rfl) (fun v296 ev296 => ?_)
        refine g_goto ?_
        exact ihL282 v296 H293 hIH293 hJH293 e294 m295 (by omega) (by omega)
  exact L282 _ v277 H271 hIH271 hJH271 e275 m276 (by omega) (Nat.lt_succ_self _)
set_option maxRecDepth 4000 in
set_option maxHeartbeats 4000000 in
/-- X5.goTo -/
theorem s_54 (a1 : Int32) (H : mzH) (hI : gI SX H) (hJ : JX H) : gCall 54 [.ref 24, .int a1] H (gRi (fun v H' => gI SX H' ∧ JX H' ∧ (0 ≤ v.toInt ∧ v.toInt ≤ 60) ∧ fZ H' 1 1 = fZ H 1 1 ∧ kpX H H')) := by
  obtain ⟨k1_1, ek1_1⟩ : ∃ z, z = fZ H 1 1 := ⟨_, rfl⟩
  have ik1_1 : k1_1.toInt = (fZ H 1 1).toInt := by rw [← ek1_1]
  have bk1_1 : 0 ≤ k1_1.toInt ∧ k1_1.toInt ≤ 900 := by rw [ek1_1]; exact fZ_of hI sx_1 rfl
  have mkfr : kpX H H := kpX_r
  refine gG_call [(0, .ref 24), (1, .int a1)] ⟨rfl, rfl, trivial⟩ ?_
  show gG 3 zB_54 (mzBlk zB_54 0) [(0, .ref 24), (1, .int a1)] [] H 0 0 _
  refine g_aload_n rfl ?_
  refine g_gfr hI sx_24 rfl ?_
  refine g_invvv hI sx_28 rfl rfl rfl rfl (s_83 28 zWo_28 H hI hJ) (fun H295 r296 => ?_)
  obtain ⟨hIH295, hJH295, w297, m298⟩ := r296
  have e299 : k1_1 = fZ H295 1 1 := ek1_1.trans w297.symm
  have m300 : kpX H H295 := kpX_t mkfr m298
  refine g_iconst (by decide) (fun v301 kv301 => ?_)
  refine g_istore_n (l' := [(0, .ref 24), (1, .int a1), (2, .int v301)]) rfl rfl ?_
  refine g_nop ?_
  have L306 : ∀ (N : Nat) (v302 : Int32) (H303 : mzH), gI SX H303 → JX H303 → k1_1 = fZ H303 1 1 → kpX H H303 → (0 ≤ v302.toInt ∧ v302.toInt ≤ 60) → (60 - v302.toInt).toNat < N → gG 3 zB_54 (mzBlk zB_54 1) [(0, .ref 24), (1, .int a1), (2, .int v302)] [] H303 0 0 (gRi (fun v H' => gI SX H' ∧ JX H' ∧ (0 ≤ v.toInt ∧ v.toInt ≤ 60) ∧ fZ H' 1 1 = fZ H 1 1 ∧ kpX H H')) := by
    intro N
    induction N with
    | zero => intro v302 H303 hIH303 hJH303 e304 m305 bv302 hmL306; exact absurd hmL306 (Nat.not_lt_zero _)
    | succ N ihL306 =>
      intro v302 H303 hIH303 hJH303 e304 m305 bv302 hmL306
      refine g_iload_n rfl ?_
      refine g_aload_n rfl ?_
      refine g_gfr hIH303 sx_24 rfl ?_
      refine g_gfi hIH303 sx_25 rfl (fun v307 ev307 lv307 uv307 => ?_)
      refine g_if2_ge (fun c308 => ?_) (fun c308 => ?_)
      · refine g_iload_n rfl ?_
        exact g_iret ⟨_, rfl, hIH303, hJH303, (by omega), (e304.symm.trans ek1_1), m305⟩
      · refine g_aload_n rfl ?_
        refine g_gfr hIH303 sx_24 rfl ?_
        refine g_iload_n rfl ?_
        refine g_invvi hIH303 sx_25 rfl rfl rfl rfl (s_27 25 zCo_25 v302 (by omega) H303 hIH303 hJH303) (fun v311 H309 r310 => ?_)
        obtain rfl := r310
        refine g_iload_n rfl ?_
        refine g_if2_gt (fun c312 => ?_) (fun c312 => ?_)
        · refine g_iload_n rfl ?_
          exact g_iret ⟨_, rfl, hIH303, hJH303, (by omega), (e304.symm.trans ek1_1), m305⟩
        · refine g_aload_n rfl ?_
          refine g_gfr hIH303 sx_24 rfl ?_
          refine g_aload_n rfl ?_
          refine g_gfr hIH303 sx_24 rfl ?_
          refine g_aload_n rfl ?_
          refine g_gfr hIH303 sx_24 rfl ?_
          refine g_gfr hIH303 sx_25 rfl ?_
          refine g_iload_n rfl ?_
          refine g_iaload hIH303 sx_27 rfl (by omega) (fun v313 ev313 lv313 uv313 => ?_)
          refine g_aload_n rfl ?_
          refine g_gfr hIH303 sx_24 rfl ?_
          refine g_iload_n rfl ?_
          refine g_invvi hIH303 sx_25 rfl rfl rfl rfl (s_27 25 zCo_25 v302 (by omega) H303 hIH303 hJH303) (fun v316 H314 r315 => ?_)
          obtain rfl := r315
          refine g_invvi hIH303 sx_28 rfl rfl rfl rfl (s_93 28 zWo_28 3 zBo_3 v313 (by omega) v316 H303 hIH303 hJH303) (fun v319 H317 r318 => ?_)
          obtain ⟨hIH317, hJH317, w320, m321⟩ := r318
          have e322 : k1_1 = fZ H317 1 1 := e304.trans w320.symm
          have m323 : kpX H H317 := kpX_t m305 m321
          refine g_pop rfl ?_
          refine g_iinc (l' := (fun v324 => [(0, .ref 24), (1, .int a1), (2, .int v324)])) rfl rfl (by decide) (by omega) (fun _ => rfl) (fun v324 ev324 => ?_)
          refine g_goto ?_
          exact ihL306 v324 H317 hIH317 hJH317 e322 m323 (by omega) (by omega)
  exact L306 _ v301 H295 hIH295 hJH295 e299 m300 (by omega) (Nat.lt_succ_self _)
set_option maxRecDepth 4000 in
set_option maxHeartbeats 4000000 in
/-- X5.worldBy -/
theorem s_55 (a1 : Int32) (H : mzH) (hI : gI SX H) (hJ : JX H) : gCall 55 [.ref 24, .int a1] H (gRa 28 (fun H' => gI SX H' ∧ JX H' ∧ fZ H' 1 1 = fZ H 1 1 ∧ kpX H H')) := by
  obtain ⟨k1_1, ek1_1⟩ : ∃ z, z = fZ H 1 1 := ⟨_, rfl⟩
  have ik1_1 : k1_1.toInt = (fZ H 1 1).toInt := by rw [← ek1_1]
  have bk1_1 : 0 ≤ k1_1.toInt ∧ k1_1.toInt ≤ 900 := by rw [ek1_1]; exact fZ_of hI sx_1 rfl
  have mkfr : kpX H H := kpX_r
  refine gG_call [(0, .ref 24), (1, .int a1)] ⟨rfl, rfl, trivial⟩ ?_
  show gG 2 zB_55 (mzBlk zB_55 0) [(0, .ref 24), (1, .int a1)] [] H 0 0 _
  refine g_aload_n rfl ?_
  refine g_iload_n rfl ?_
  refine g_invvi hI sx_24 rfl rfl rfl rfl (s_54 a1 H hI hJ) (fun v31 H29 r30 => ?_)
  obtain ⟨hIH29, hJH29, bv31, w32, m33⟩ := r30
  have e34 : k1_1 = fZ H29 1 1 := ek1_1.trans w32.symm
  have m35 : kpX H H29 := kpX_t mkfr m33
  refine g_pop rfl ?_
  refine g_aload_n rfl ?_
  refine g_gfr hIH29 sx_24 rfl ?_
  exact g_aret ⟨rfl, hIH29, hJH29, (e34.symm.trans ek1_1), m35⟩
set_option maxRecDepth 4000 in
set_option maxHeartbeats 4000000 in
/-- X5.worldOfFirst -/
theorem s_56 (a1 : Int32) (H : mzH) (hI : gI SX H) (hJ : JX H) : gCall 56 [.ref 24, .int a1] H (gRa 28 (fun H' => gI SX H' ∧ JX H' ∧ fZ H' 1 1 = fZ H 1 1 ∧ kpX H H')) := by
  obtain ⟨k1_1, ek1_1⟩ : ∃ z, z = fZ H 1 1 := ⟨_, rfl⟩
  have ik1_1 : k1_1.toInt = (fZ H 1 1).toInt := by rw [← ek1_1]
  have bk1_1 : 0 ≤ k1_1.toInt ∧ k1_1.toInt ≤ 900 := by rw [ek1_1]; exact fZ_of hI sx_1 rfl
  have mkfr : kpX H H := kpX_r
  refine gG_call [(0, .ref 24), (1, .int a1)] ⟨rfl, rfl, trivial⟩ ?_
  show gG 3 zB_56 (mzBlk zB_56 0) [(0, .ref 24), (1, .int a1)] [] H 0 0 _
  refine g_aload_n rfl ?_
  refine g_gfr hI sx_24 rfl ?_
  refine g_invvv hI sx_28 rfl rfl rfl rfl (s_83 28 zWo_28 H hI hJ) (fun H225 r226 => ?_)
  obtain ⟨hIH225, hJH225, w227, m228⟩ := r226
  have e229 : k1_1 = fZ H225 1 1 := ek1_1.trans w227.symm
  have m230 : kpX H H225 := kpX_t mkfr m228
  refine g_iconst (by decide) (fun v231 kv231 => ?_)
  refine g_istore_n (l' := [(0, .ref 24), (1, .int a1), (2, .int v231)]) rfl rfl ?_
  refine g_nop ?_
  have L236 : ∀ (N : Nat) (v232 : Int32) (H233 : mzH), gI SX H233 → JX H233 → k1_1 = fZ H233 1 1 → kpX H H233 → (0 ≤ v232.toInt ∧ v232.toInt ≤ 60) → (60 - v232.toInt).toNat < N → gG 3 zB_56 (mzBlk zB_56 1) [(0, .ref 24), (1, .int a1), (2, .int v232)] [] H233 0 0 (gRa 28 (fun H' => gI SX H' ∧ JX H' ∧ fZ H' 1 1 = fZ H 1 1 ∧ kpX H H')) := by
    intro N
    induction N with
    | zero => intro v232 H233 hIH233 hJH233 e234 m235 bv232 hmL236; exact absurd hmL236 (Nat.not_lt_zero _)
    | succ N ihL236 =>
      intro v232 H233 hIH233 hJH233 e234 m235 bv232 hmL236
      refine g_iload_n rfl ?_
      refine g_aload_n rfl ?_
      refine g_gfr hIH233 sx_24 rfl ?_
      refine g_gfi hIH233 sx_25 rfl (fun v237 ev237 lv237 uv237 => ?_)
      refine g_if2_ge (fun c238 => ?_) (fun c238 => ?_)
      · refine g_aload_n rfl ?_
        refine g_gfr hIH233 sx_24 rfl ?_
        exact g_aret ⟨rfl, hIH233, hJH233, (e234.symm.trans ek1_1), m235⟩
      · refine g_aload_n rfl ?_
        refine g_gfr hIH233 sx_24 rfl ?_
        refine g_gfr hIH233 sx_25 rfl ?_
        refine g_iload_n rfl ?_
        refine g_iaload hIH233 sx_27 rfl (by omega) (fun v239 ev239 lv239 uv239 => ?_)
        refine g_iload_n rfl ?_
        refine g_if2_ge (fun c240 => ?_) (fun c240 => ?_)
        · refine g_iinc (l' := (fun v241 => [(0, .ref 24), (1, .int a1), (2, .int v241)])) rfl rfl (by decide) (by omega) (fun _ => rfl) (fun v241 ev241 => ?_)
          refine g_goto ?_
          exact ihL236 v241 H233 hIH233 hJH233 e234 m235 (by omega) (by omega)
        · refine g_aload_n rfl ?_
          refine g_iload_n rfl ?_
          refine g_invvi hIH233 sx_24 rfl rfl rfl rfl (s_53 v232 (by omega) H233 hIH233 hJH233) (fun v244 H242 r243 => ?_)
          obtain ⟨hIH242, hJH242, w245, m246⟩ := r243
          have e247 : k1_1 = fZ H242 1 1 := e234.trans w245.symm
          have m248 : kpX H H242 := kpX_t m235 m246
          refine g_pop rfl ?_
          refine g_nop ?_
          refine g_iinc (l' := (fun v249 => [(0, .ref 24), (1, .int a1), (2, .int v249)])) rfl rfl (by decide) (by omega) (fun _ => rfl) (fun v249 ev249 => ?_)
          refine g_goto ?_
          exact ihL236 v249 H242 hIH242 hJH242 e247 m248 (by omega) (by omega)
  exact L236 _ v231 H225 hIH225 hJH225 e229 m230 (by omega) (Nat.lt_succ_self _)
set_option maxRecDepth 4000 in
set_option maxHeartbeats 4000000 in
/-- X5.thingsChangedBy -/
theorem s_57 (a1 : Int32) (ha1 : 0 ≤ a1.toInt ∧ a1.toInt ≤ 59) (H : mzH) (hI : gI SX H) (hJ : JX H) : gCall 57 [.ref 24, .int a1] H (gRi (fun v H' => gI SX H' ∧ JX H' ∧ fZ H' 1 1 = fZ H 1 1 ∧ kpX H H')) := by
  obtain ⟨k1_1, ek1_1⟩ : ∃ z, z = fZ H 1 1 := ⟨_, rfl⟩
  have ik1_1 : k1_1.toInt = (fZ H 1 1).toInt := by rw [← ek1_1]
  have bk1_1 : 0 ≤ k1_1.toInt ∧ k1_1.toInt ≤ 900 := by rw [ek1_1]; exact fZ_of hI sx_1 rfl
  have mkfr : kpX H H := kpX_r
  refine gG_call [(0, .ref 24), (1, .int a1)] ⟨rfl, rfl, trivial⟩ ?_
  show gG 4 zB_57 (mzBlk zB_57 0) [(0, .ref 24), (1, .int a1)] [] H 0 0 _
  refine g_aload_n rfl ?_
  refine g_gfr hI sx_24 rfl ?_
  refine g_aload_n rfl ?_
  refine g_iload_n rfl ?_
  refine g_invva hI sx_24 rfl rfl rfl rfl (s_56 a1 H hI hJ) (fun H629 r630 => ?_)
  obtain ⟨hIH629, hJH629, w631, m632⟩ := r630
  have e633 : k1_1 = fZ H629 1 1 := ek1_1.trans w631.symm
  have m634 : kpX H H629 := kpX_t mkfr m632
  refine g_invvv hIH629 sx_35 rfl rfl rfl rfl (s_84 35 zWo_35 28 zWo_28 H629 hIH629 hJH629) (fun H635 r636 => ?_)
  obtain ⟨hIH635, hJH635, w637, m638⟩ := r636
  have e639 : k1_1 = fZ H635 1 1 := e633.trans w637.symm
  have m640 : kpX H H635 := kpX_t m634 m638
  refine g_aload_n rfl ?_
  refine g_iload_n rfl ?_
  refine g_iconst (by decide) (fun v641 kv641 => ?_)
  refine g_iadd (by omega) (fun v642 ev642 => ?_)
  refine g_invva hIH635 sx_24 rfl rfl rfl rfl (s_56 v642 H635 hIH635 hJH635) (fun H643 r644 => ?_)
  obtain ⟨hIH643, hJH643, w645, m646⟩ := r644
  have e647 : k1_1 = fZ H643 1 1 := e639.trans w645.symm
  have m648 : kpX H H643 := kpX_t m640 m646
  refine g_pop rfl ?_
  refine g_iconst (by decide) (fun v649 kv649 => ?_)
  refine g_istore_n (l' := [(0, .ref 24), (1, .int a1), (2, .int v649)]) rfl rfl ?_
  refine g_iconst (by decide) (fun v650 kv650 => ?_)
  refine g_istore_n (l' := [(0, .ref 24), (1, .int a1), (2, .int v649), (3, .int v650)]) rfl rfl ?_
  refine g_nop ?_
  have L653 : ∀ (N : Nat) (v651 : Int32) (v652 : Int32), (0 ≤ v652.toInt ∧ v652.toInt ≤ 40) → (40 - v652.toInt).toNat < N → gG 4 zB_57 (mzBlk zB_57 1) [(0, .ref 24), (1, .int a1), (2, .int v651), (3, .int v652)] [] H643 0 0 (gRi (fun v H' => gI SX H' ∧ JX H' ∧ fZ H' 1 1 = fZ H 1 1 ∧ kpX H H')) := by
    intro N
    induction N with
    | zero => intro v651 v652 bv652 hmL653; exact absurd hmL653 (Nat.not_lt_zero _)
    | succ N ihL653 =>
      intro v651 v652 bv652 hmL653
      refine g_iload_n rfl ?_
      refine g_bipush (by decide) (fun v654 kv654 => ?_)
      refine g_if2_ge (fun c655 => ?_) (fun c655 => ?_)
      · refine g_iload_n rfl ?_
        exact g_iret ⟨_, rfl, hIH643, hJH643, (e647.symm.trans ek1_1), m648⟩
      · refine g_iload_n rfl ?_
        refine g_aload_n rfl ?_
        refine g_gfr hIH643 sx_24 rfl ?_
        refine g_iload_n rfl ?_
        refine g_invvi hIH643 sx_35 rfl rfl rfl rfl (s_91 35 zWo_35 v652 (by omega) H643 hIH643 hJH643) (fun v658 H656 r657 => ?_)
        obtain rfl := r657
        refine g_aload_n rfl ?_
        refine g_gfr hIH643 sx_24 rfl ?_
        refine g_iload_n rfl ?_
        refine g_invvi hIH643 sx_28 rfl rfl rfl rfl (s_91 28 zWo_28 v652 (by omega) H643 hIH643 hJH643) (fun v661 H659 r660 => ?_)
        obtain rfl := r660
        refine g_if2_eq (fun c662 => ?_) (fun c662 => ?_)
        · refine g_iconst (by decide) (fun v663 kv663 => ?_)
          refine g_nop ?_
          refine g_iadd (by have := gz_any v651; omega) (fun v664 ev664 => ?_)
          refine g_istore_n (l' := [(0, .ref 24), (1, .int a1), (2, .int v664), (3, .int v652)]) rfl rfl ?_
          refine g_iinc (l' := (fun v665 => [(0, .ref 24), (1, .int a1), (2, .int v664), (3, .int v665)])) rfl rfl (by decide) (by omega) (fun _ => rfl) (fun v665 ev665 => ?_)
          refine g_goto ?_
          exact ihL653 v664 v665 (by omega) (by omega)
        · refine g_iconst (by decide) (fun v666 kv666 => ?_)
          refine g_goto ?_
          refine g_iadd' (fun v667 ov667 => ?_)
          refine g_istore_n (l' := [(0, .ref 24), (1, .int a1), (2, .int v667), (3, .int v652)]) rfl rfl ?_
          refine g_iinc (l' := (fun v668 => [(0, .ref 24), (1, .int a1), (2, .int v667), (3, .int v668)])) rfl rfl (by decide) (by omega) (fun _ => rfl) (fun v668 ev668 => ?_)
          refine g_goto ?_
          exact ihL653 v667 v668 (by omega) (by omega)
  exact L653 _ v649 v650 (by omega) (Nat.lt_succ_self _)
set_option maxRecDepth 4000 in
set_option maxHeartbeats 4000000 in
/-- X5.verdicts -/
theorem s_58 (a1 : Int32) (H : mzH) (hI : gI SX H) (hJ : JX H) : gCall 58 [.ref 24, .int a1] H (gRi (fun v H' => H = H')) := by
  refine gG_call [(0, .ref 24), (1, .int a1)] ⟨rfl, rfl, trivial⟩ ?_
  show gG 4 zB_58 (mzBlk zB_58 0) [(0, .ref 24), (1, .int a1)] [] H 0 0 _
  refine g_iconst (by decide) (fun v669 kv669 => ?_)
  refine g_istore_n (l' := [(0, .ref 24), (1, .int a1), (2, .int v669)]) rfl rfl ?_
  refine g_iconst (by decide) (fun v670 kv670 => ?_)
  refine g_istore_n (l' := [(0, .ref 24), (1, .int a1), (2, .int v669), (3, .int v670)]) rfl rfl ?_
  refine g_nop ?_
  have L673 : ∀ (N : Nat) (v671 : Int32) (v672 : Int32), (0 ≤ v672.toInt ∧ v672.toInt ≤ 60) → (60 - v672.toInt).toNat < N → gG 4 zB_58 (mzBlk zB_58 1) [(0, .ref 24), (1, .int a1), (2, .int v671), (3, .int v672)] [] H 0 0 (gRi (fun v H' => H = H')) := by
    intro N
    induction N with
    | zero => intro v671 v672 bv672 hmL673; exact absurd hmL673 (Nat.not_lt_zero _)
    | succ N ihL673 =>
      intro v671 v672 bv672 hmL673
      refine g_iload_n rfl ?_
      refine g_aload_n rfl ?_
      refine g_gfr hI sx_24 rfl ?_
      refine g_gfi hI sx_25 rfl (fun v674 ev674 lv674 uv674 => ?_)
      refine g_if2_ge (fun c675 => ?_) (fun c675 => ?_)
      · refine g_iload_n rfl ?_
        exact g_iret ⟨_, rfl, rfl⟩
      · refine g_iload_n rfl ?_
        refine g_iload_n rfl ?_
        refine g_aload_n rfl ?_
        refine g_gfr hI sx_24 rfl ?_
        refine g_iload_n rfl ?_
        refine g_iaload hI sx_42 rfl (by omega) (fun v676 ev676 lv676 uv676 => ?_)
        refine g_if2_eq (fun c677 => ?_) (fun c677 => ?_)
        · refine g_iconst (by decide) (fun v678 kv678 => ?_)
          refine g_goto ?_
          refine g_iadd' (fun v679 ov679 => ?_)
          refine g_istore_n (l' := [(0, .ref 24), (1, .int a1), (2, .int v679), (3, .int v672)]) rfl rfl ?_
          refine g_iinc (l' := (fun v680 => [(0, .ref 24), (1, .int a1), (2, .int v679), (3, .int v680)])) rfl rfl (by decide) (by omega) (fun _ => rfl) (fun v680 ev680 => ?_)
          refine g_goto ?_
          exact ihL673 v679 v680 (by omega) (by omega)
        · refine g_iload_n rfl ?_
          refine g_iconst (by decide) (fun v681 kv681 => ?_)
          refine g_if2_ne (fun c682 => ?_) (fun c682 => ?_)
          · refine g_iconst (by decide) (fun v683 kv683 => ?_)
            refine g_nop ?_
            refine g_iadd (by have := gz_any v671; omega) (fun v684 ev684 => ?_)
            refine g_istore_n (l' := [(0, .ref 24), (1, .int a1), (2, .int v684), (3, .int v672)]) rfl rfl ?_
            refine g_iinc (l' := (fun v685 => [(0, .ref 24), (1, .int a1), (2, .int v684), (3, .int v685)])) rfl rfl (by decide) (by omega) (fun _ => rfl) (fun v685 ev685 => ?_)
            refine g_goto ?_
            exact ihL673 v684 v685 (by omega) (by omega)
          · refine g_aload_n rfl ?_
            refine g_gfr hI sx_24 rfl ?_
            refine g_iload_n rfl ?_
            refine g_ialoadk hI sx_42 rfl (by omega) ev676 ?_
            refine g_if_eq (fun c686 => ?_) (fun c686 => ?_)
            · refine g_iconst (by decide) (fun v687 kv687 => ?_)
              refine g_nop ?_
              refine g_iadd (by have := gz_any v671; omega) (fun v688 ev688 => ?_)
              refine g_istore_n (l' := [(0, .ref 24), (1, .int a1), (2, .int v688), (3, .int v672)]) rfl rfl ?_
              refine g_iinc (l' := (fun v689 => [(0, .ref 24), (1, .int a1), (2, .int v688), (3, .int v689)])) rfl rfl (by decide) (by omega) (fun _ => rfl) (fun v689 ev689 => ?_)
              refine g_goto ?_
              exact ihL673 v688 v689 (by omega) (by omega)
            · refine g_nop ?_
              refine g_iconst (by decide) (fun v690 kv690 => ?_)
              refine g_goto ?_
              refine g_iadd' (fun v691 ov691 => ?_)
              refine g_istore_n (l' := [(0, .ref 24), (1, .int a1), (2, .int v691), (3, .int v672)]) rfl rfl ?_
              refine g_iinc (l' := (fun v692 => [(0, .ref 24), (1, .int a1), (2, .int v691), (3, .int v692)])) rfl rfl (by decide) (by omega) (fun _ => rfl) (fun v692 ev692 => ?_)
              refine g_goto ?_
              exact ihL673 v691 v692 (by omega) (by omega)
  exact L673 _ v669 v670 (by omega) (Nat.lt_succ_self _)
set_option maxRecDepth 4000 in
set_option maxHeartbeats 4000000 in
/-- X5.trailEntry -/
theorem s_59 (a1 : Int32) (ha1 : 0 ≤ a1.toInt ∧ a1.toInt ≤ 39) (a2 : Int32) (a3 : Int32) (ha3 : 0 ≤ a3.toInt ∧ a3.toInt ≤ 1) (H : mzH) (hI : gI SX H) (hJ : JX H) : gCall 59 [.ref 24, .int a1, .int a2, .int a3] H (gRi (fun v H' => gI SX H' ∧ JX H' ∧ fZ H' 1 1 = fZ H 1 1 ∧ kpX H H')) := by
  obtain ⟨k1_1, ek1_1⟩ : ∃ z, z = fZ H 1 1 := ⟨_, rfl⟩
  have ik1_1 : k1_1.toInt = (fZ H 1 1).toInt := by rw [← ek1_1]
  have bk1_1 : 0 ≤ k1_1.toInt ∧ k1_1.toInt ≤ 900 := by rw [ek1_1]; exact fZ_of hI sx_1 rfl
  have mkfr : kpX H H := kpX_r
  refine gG_call [(0, .ref 24), (1, .int a1), (2, .int a2), (3, .int a3)] ⟨rfl, rfl, rfl, rfl, trivial⟩ ?_
  show gG 7 zB_59 (mzBlk zB_59 0) [(0, .ref 24), (1, .int a1), (2, .int a2), (3, .int a3)] [] H 0 0 _
  refine g_aload_n rfl ?_
  refine g_gfr hI sx_24 rfl ?_
  refine g_invvv hI sx_28 rfl rfl rfl rfl (s_83 28 zWo_28 H hI hJ) (fun H937 r938 => ?_)
  obtain ⟨hIH937, hJH937, w939, m940⟩ := r938
  have e941 : k1_1 = fZ H937 1 1 := ek1_1.trans w939.symm
  have m942 : kpX H H937 := kpX_t mkfr m940
  refine g_bipush (by decide) (fun v943 kv943 => ?_)
  refine g_istore (l' := [(0, .ref 24), (1, .int a1), (2, .int a2), (3, .int a3), (4, .int v943)]) rfl rfl ?_
  refine g_iconst (by decide) (fun v944 kv944 => ?_)
  refine g_istore (l' := [(0, .ref 24), (1, .int a1), (2, .int a2), (3, .int a3), (4, .int v943), (5, .int v944)]) rfl rfl ?_
  refine g_iconst (by decide) (fun v945 kv945 => ?_)
  refine g_istore (l' := [(0, .ref 24), (1, .int a1), (2, .int a2), (3, .int a3), (4, .int v943), (5, .int v944), (6, .int v945)]) rfl rfl ?_
  refine g_nop ?_
  have L952 : ∀ (N : Nat) (v946 : Int32) (v947 : Int32) (v948 : Int32) (H949 : mzH), gI SX H949 → JX H949 → k1_1 = fZ H949 1 1 → kpX H H949 → (0 ≤ v948.toInt ∧ v948.toInt ≤ 60) → (60 - v948.toInt).toNat < N → gG 7 zB_59 (mzBlk zB_59 1) [(0, .ref 24), (1, .int a1), (2, .int a2), (3, .int a3), (4, .int v946), (5, .int v947), (6, .int v948)] [] H949 0 0 (gRi (fun v H' => gI SX H' ∧ JX H' ∧ fZ H' 1 1 = fZ H 1 1 ∧ kpX H H')) := by
    intro N
    induction N with
    | zero => intro v946 v947 v948 H949 hIH949 hJH949 e950 m951 bv948 hmL952; exact absurd hmL952 (Nat.not_lt_zero _)
    | succ N ihL952 =>
      intro v946 v947 v948 H949 hIH949 hJH949 e950 m951 bv948 hmL952
      refine g_iload rfl ?_
      refine g_aload_n rfl ?_
      refine g_gfr hIH949 sx_24 rfl ?_
      refine g_gfi hIH949 sx_25 rfl (fun v953 ev953 lv953 uv953 => ?_)
      refine g_if2_ge (fun c954 => ?_) (fun c954 => ?_)
      · refine g_bipush (by decide) (fun v955 kv955 => ?_)
        exact g_iret ⟨_, rfl, hIH949, hJH949, (e950.symm.trans ek1_1), m951⟩
      · refine g_aload_n rfl ?_
        refine g_iload rfl ?_
        refine g_invvi hIH949 sx_24 rfl rfl rfl rfl (s_53 v948 (by omega) H949 hIH949 hJH949) (fun v958 H956 r957 => ?_)
        obtain ⟨hIH956, hJH956, w959, m960⟩ := r957
        have e961 : k1_1 = fZ H956 1 1 := e950.trans w959.symm
        have m962 : kpX H H956 := kpX_t m951 m960
        refine g_pop rfl ?_
        refine g_aload_n rfl ?_
        refine g_gfr hIH956 sx_24 rfl ?_
        refine g_iload_n rfl ?_
        refine g_invvi hIH956 sx_28 rfl rfl rfl rfl (s_91 28 zWo_28 a1 (by omega) H956 hIH956 hJH956) (fun v965 H963 r964 => ?_)
        obtain rfl := r964
        refine g_iload rfl ?_
        refine g_if2_eq (fun c966 => ?_) (fun c966 => ?_)
        · refine g_iinc (l' := (fun v967 => [(0, .ref 24), (1, .int a1), (2, .int a2), (3, .int a3), (4, .int v946), (5, .int v947), (6, .int v967)])) rfl rfl (by decide) (by omega) (fun _ => rfl) (fun v967 ev967 => ?_)
          refine g_goto ?_
          exact ihL952 v946 v947 v967 H956 hIH956 hJH956 e961 m962 (by omega) (by omega)
        · refine g_aload_n rfl ?_
          refine g_gfr hIH956 sx_24 rfl ?_
          refine g_iload_n rfl ?_
          refine g_invvi hIH956 sx_28 rfl rfl rfl rfl (s_91 28 zWo_28 a1 (by omega) H956 hIH956 hJH956) (fun v970 H968 r969 => ?_)
          obtain rfl := r969
          refine g_istore (l' := [(0, .ref 24), (1, .int a1), (2, .int a2), (3, .int a3), (4, .int v970), (5, .int v947), (6, .int v948)]) rfl rfl ?_
          refine g_iload rfl ?_
          refine g_iload_n rfl ?_
          refine g_if2_ne (fun c971 => ?_) (fun c971 => ?_)
          · refine g_iinc' (l' := (fun v972 => [(0, .ref 24), (1, .int a1), (2, .int a2), (3, .int a3), (4, .int v970), (5, .int v972), (6, .int v948)])) rfl rfl (fun _ => rfl) (fun v972 => ?_)
            refine g_nop ?_
            refine g_iinc (l' := (fun v973 => [(0, .ref 24), (1, .int a1), (2, .int a2), (3, .int a3), (4, .int v970), (5, .int v972), (6, .int v973)])) rfl rfl (by decide) (by omega) (fun _ => rfl) (fun v973 ev973 => ?_)
            refine g_goto ?_
            exact ihL952 v970 v972 v973 H956 hIH956 hJH956 e961 m962 (by omega) (by omega)
          · refine g_iload_n rfl ?_
            refine g_if_eq (fun c974 => ?_) (fun c974 => ?_)
            · refine g_aload_n rfl ?_
              refine g_gfr hIH956 sx_24 rfl ?_
              refine g_iload rfl ?_
              refine g_invvi hIH956 sx_25 rfl rfl rfl rfl (s_27 25 zCo_25 v948 (by omega) H956 hIH956 hJH956) (fun v977 H975 r976 => ?_)
              obtain rfl := r976
              refine g_nop ?_
              exact g_iret ⟨_, rfl, hIH956, hJH956, (e961.symm.trans ek1_1), m962⟩
            · refine g_iload rfl ?_
              refine g_goto ?_
              exact g_iret ⟨_, rfl, hIH956, hJH956, (e961.symm.trans ek1_1), m962⟩
  exact L952 _ v943 v944 v945 H937 hIH937 hJH937 e941 m942 (by omega) (Nat.lt_succ_self _)
set_option maxRecDepth 4000 in
set_option maxHeartbeats 4000000 in
/-- X5.hoursAt -/
theorem s_60 (a1 : Int32) (ha1 : 0 ≤ a1.toInt ∧ a1.toInt ≤ 39) (a2 : Int32) (H : mzH) (hI : gI SX H) (hJ : JX H) : gCall 60 [.ref 24, .int a1, .int a2] H (gRi (fun v H' => gI SX H' ∧ JX H' ∧ fZ H' 1 1 = fZ H 1 1 ∧ kpX H H')) := by
  obtain ⟨k1_1, ek1_1⟩ : ∃ z, z = fZ H 1 1 := ⟨_, rfl⟩
  have ik1_1 : k1_1.toInt = (fZ H 1 1).toInt := by rw [← ek1_1]
  have bk1_1 : 0 ≤ k1_1.toInt ∧ k1_1.toInt ≤ 900 := by rw [ek1_1]; exact fZ_of hI sx_1 rfl
  have mkfr : kpX H H := kpX_r
  refine gG_call [(0, .ref 24), (1, .int a1), (2, .int a2)] ⟨rfl, rfl, rfl, trivial⟩ ?_
  show gG 7 zB_60 (mzBlk zB_60 0) [(0, .ref 24), (1, .int a1), (2, .int a2)] [] H 0 0 _
  refine g_aload_n rfl ?_
  refine g_gfr hI sx_24 rfl ?_
  refine g_invvv hI sx_28 rfl rfl rfl rfl (s_83 28 zWo_28 H hI hJ) (fun H699 r700 => ?_)
  obtain ⟨hIH699, hJH699, w701, m702⟩ := r700
  have e703 : k1_1 = fZ H699 1 1 := ek1_1.trans w701.symm
  have m704 : kpX H H699 := kpX_t mkfr m702
  refine g_bipush (by decide) (fun v705 kv705 => ?_)
  refine g_istore_n (l' := [(0, .ref 24), (1, .int a1), (2, .int a2), (3, .int v705)]) rfl rfl ?_
  refine g_iconst (by decide) (fun v706 kv706 => ?_)
  refine g_istore (l' := [(0, .ref 24), (1, .int a1), (2, .int a2), (3, .int v705), (4, .int v706)]) rfl rfl ?_
  refine g_iconst (by decide) (fun v707 kv707 => ?_)
  refine g_istore (l' := [(0, .ref 24), (1, .int a1), (2, .int a2), (3, .int v705), (4, .int v706), (5, .int v707)]) rfl rfl ?_
  refine g_iconst (by decide) (fun v708 kv708 => ?_)
  refine g_istore (l' := [(0, .ref 24), (1, .int a1), (2, .int a2), (3, .int v705), (4, .int v706), (5, .int v707), (6, .int v708)]) rfl rfl ?_
  refine g_nop ?_
  have L716 : ∀ (N : Nat) (v709 : Int32) (v710 : Int32) (v711 : Int32) (v712 : Int32) (H713 : mzH), gI SX H713 → JX H713 → k1_1 = fZ H713 1 1 → kpX H H713 → (0 ≤ v712.toInt ∧ v712.toInt ≤ 60) → (60 - v712.toInt).toNat < N → gG 7 zB_60 (mzBlk zB_60 1) [(0, .ref 24), (1, .int a1), (2, .int a2), (3, .int v709), (4, .int v710), (5, .int v711), (6, .int v712)] [] H713 0 0 (gRi (fun v H' => gI SX H' ∧ JX H' ∧ fZ H' 1 1 = fZ H 1 1 ∧ kpX H H')) := by
    intro N
    induction N with
    | zero => intro v709 v710 v711 v712 H713 hIH713 hJH713 e714 m715 bv712 hmL716; exact absurd hmL716 (Nat.not_lt_zero _)
    | succ N ihL716 =>
      intro v709 v710 v711 v712 H713 hIH713 hJH713 e714 m715 bv712 hmL716
      refine g_iload rfl ?_
      refine g_aload_n rfl ?_
      refine g_gfr hIH713 sx_24 rfl ?_
      refine g_gfi hIH713 sx_25 rfl (fun v717 ev717 lv717 uv717 => ?_)
      refine g_if2_ge (fun c718 => ?_) (fun c718 => ?_)
      · refine g_iload_n rfl ?_
        refine g_iload_n rfl ?_
        refine g_if2_ne (fun c719 => ?_) (fun c719 => ?_)
        · refine g_iload rfl ?_
          refine g_nop ?_
          exact g_iret ⟨_, rfl, hIH713, hJH713, (e714.symm.trans ek1_1), m715⟩
        · refine g_iload rfl ?_
          refine g_aload_n rfl ?_
          refine g_gfr hIH713 sx_24 rfl ?_
          refine g_invvi hIH713 sx_3 rfl rfl rfl rfl (s_22 3 zBo_3 H713 hIH713 hJH713) (fun v722 H720 r721 => ?_)
          obtain rfl := r721
          refine g_iadd' (fun v723 ov723 => ?_)
          refine g_iload rfl ?_
          refine g_isub' (fun v724 ov724 => ?_)
          refine g_goto ?_
          exact g_iret ⟨_, rfl, hIH713, hJH713, (e714.symm.trans ek1_1), m715⟩
      · refine g_aload_n rfl ?_
        refine g_iload rfl ?_
        refine g_invvi hIH713 sx_24 rfl rfl rfl rfl (s_53 v712 (by omega) H713 hIH713 hJH713) (fun v727 H725 r726 => ?_)
        obtain ⟨hIH725, hJH725, w728, m729⟩ := r726
        have e730 : k1_1 = fZ H725 1 1 := e714.trans w728.symm
        have m731 : kpX H H725 := kpX_t m715 m729
        refine g_pop rfl ?_
        refine g_aload_n rfl ?_
        refine g_gfr hIH725 sx_24 rfl ?_
        refine g_iload_n rfl ?_
        refine g_invvi hIH725 sx_28 rfl rfl rfl rfl (s_91 28 zWo_28 a1 (by omega) H725 hIH725 hJH725) (fun v734 H732 r733 => ?_)
        obtain rfl := r733
        refine g_iload_n rfl ?_
        refine g_if2_eq (fun c735 => ?_) (fun c735 => ?_)
        · refine g_iinc (l' := (fun v736 => [(0, .ref 24), (1, .int a1), (2, .int a2), (3, .int v709), (4, .int v710), (5, .int v711), (6, .int v736)])) rfl rfl (by decide) (by omega) (fun _ => rfl) (fun v736 ev736 => ?_)
          refine g_goto ?_
          exact ihL716 v709 v710 v711 v736 H725 hIH725 hJH725 e730 m731 (by omega) (by omega)
        · refine g_iload rfl ?_
          refine g_iload_n rfl ?_
          refine g_iload_n rfl ?_
          refine g_if2_ne (fun c737 => ?_) (fun c737 => ?_)
          · refine g_iconst (by decide) (fun v738 kv738 => ?_)
            refine g_nop ?_
            refine g_iadd (by have := gz_any v711; omega) (fun v739 ev739 => ?_)
            refine g_istore (l' := [(0, .ref 24), (1, .int a1), (2, .int a2), (3, .int v709), (4, .int v710), (5, .int v739), (6, .int v712)]) rfl rfl ?_
            refine g_aload_n rfl ?_
            refine g_gfr hIH725 sx_24 rfl ?_
            refine g_iload_n rfl ?_
            refine g_invvi hIH725 sx_28 rfl rfl rfl rfl (s_91 28 zWo_28 a1 (by omega) H725 hIH725 hJH725) (fun v742 H740 r741 => ?_)
            obtain rfl := r741
            refine g_istore_n (l' := [(0, .ref 24), (1, .int a1), (2, .int a2), (3, .int v742), (4, .int v710), (5, .int v739), (6, .int v712)]) rfl rfl ?_
            refine g_aload_n rfl ?_
            refine g_gfr hIH725 sx_24 rfl ?_
            refine g_iload rfl ?_
            refine g_invvi hIH725 sx_25 rfl rfl rfl rfl (s_27 25 zCo_25 v712 (by omega) H725 hIH725 hJH725) (fun v745 H743 r744 => ?_)
            obtain rfl := r744
            refine g_istore (l' := [(0, .ref 24), (1, .int a1), (2, .int a2), (3, .int v742), (4, .int v745), (5, .int v739), (6, .int v712)]) rfl rfl ?_
            refine g_nop ?_
            refine g_iinc (l' := (fun v746 => [(0, .ref 24), (1, .int a1), (2, .int a2), (3, .int v742), (4, .int v745), (5, .int v739), (6, .int v746)])) rfl rfl (by decide) (by omega) (fun _ => rfl) (fun v746 ev746 => ?_)
            refine g_goto ?_
            exact ihL716 v742 v745 v739 v746 H725 hIH725 hJH725 e730 m731 (by omega) (by omega)
          · refine g_aload_n rfl ?_
            refine g_gfr hIH725 sx_24 rfl ?_
            refine g_iload rfl ?_
            refine g_invvi hIH725 sx_25 rfl rfl rfl rfl (s_27 25 zCo_25 v712 (by omega) H725 hIH725 hJH725) (fun v749 H747 r748 => ?_)
            obtain rfl := r748
            refine g_iload rfl ?_
            refine g_isub' (fun v750 ov750 => ?_)
            refine g_goto ?_
            refine g_iadd' (fun v751 ov751 => ?_)
            refine g_istore (l' := [(0, .ref 24), (1, .int a1), (2, .int a2), (3, .int v709), (4, .int v710), (5, .int v751), (6, .int v712)]) rfl rfl ?_
            refine g_aload_n rfl ?_
            refine g_gfr hIH725 sx_24 rfl ?_
            refine g_iload_n rfl ?_
            refine g_invvi hIH725 sx_28 rfl rfl rfl rfl (s_91 28 zWo_28 a1 (by omega) H725 hIH725 hJH725) (fun v754 H752 r753 => ?_)
            obtain rfl := r753
            refine g_istore_n (l' := [(0, .ref 24), (1, .int a1), (2, .int a2), (3, .int v754), (4, .int v710), (5, .int v751), (6, .int v712)]) rfl rfl ?_
            refine g_aload_n rfl ?_
            refine g_gfr hIH725 sx_24 rfl ?_
            refine g_iload rfl ?_
            refine g_invvi hIH725 sx_25 rfl rfl rfl rfl (s_27 25 zCo_25 v712 (by omega) H725 hIH725 hJH725) (fun v757 H755 r756 => ?_)
            obtain rfl := r756
            refine g_istore (l' := [(0, .ref 24), (1, .int a1), (2, .int a2), (3, .int v754), (4, .int v757), (5, .int v751), (6, .int v712)]) rfl rfl ?_
            refine g_nop ?_
            refine g_iinc (l' := (fun v758 => [(0, .ref 24), (1, .int a1), (2, .int a2), (3, .int v754), (4, .int v757), (5, .int v751), (6, .int v758)])) rfl rfl (by decide) (by omega) (fun _ => rfl) (fun v758 ev758 => ?_)
            refine g_goto ?_
            exact ihL716 v754 v757 v751 v758 H725 hIH725 hJH725 e730 m731 (by omega) (by omega)
  exact L716 _ v705 v706 v707 v708 H699 hIH699 hJH699 e703 m704 (by omega) (Nat.lt_succ_self _)
set_option maxRecDepth 4000 in
set_option maxHeartbeats 4000000 in
/-- X8.allAt -/
theorem s_105 (w : Nat) (hw : zWo w) (a1 : Int32) (H : mzH) (hI : gI SX H) (hJ : JX H) : gCall 105 [.ref w, .int a1] H (gRl (fun _ H' => H = H')) := by
  obtain ⟨hwr, hw0, hw1, hw2, hw3, hw4, hw5, hw6⟩ := id hw
  refine gG_call [(0, .ref w), (1, .int a1)] ⟨rfl, rfl, trivial⟩ ?_
  show gG 5 zB_105 (mzBlk zB_105 0) [(0, .ref w), (1, .int a1)] [] H 0 0 _
  refine g_lconst (fun v177 _ => ?_)
  refine g_lstore_n (l' := [(0, .ref w), (1, .int a1), (2, .long v177)]) rfl rfl ?_
  refine g_iconst (by decide) (fun v178 kv178 => ?_)
  refine g_istore (l' := [(0, .ref w), (1, .int a1), (2, .long v177), (4, .int v178)]) rfl rfl ?_
  refine g_nop ?_
  have L181 : ∀ (N : Nat) (v179 : Int64) (v180 : Int32), (0 ≤ v180.toInt ∧ v180.toInt ≤ 40) → (40 - v180.toInt).toNat < N → gG 5 zB_105 (mzBlk zB_105 1) [(0, .ref w), (1, .int a1), (2, .long v179), (4, .int v180)] [] H 0 0 (gRl (fun _ H' => H = H')) := by
    intro N
    induction N with
    | zero => intro v179 v180 bv180 hmL181; exact absurd hmL181 (Nat.not_lt_zero _)
    | succ N ihL181 =>
      intro v179 v180 bv180 hmL181
      refine g_iload rfl ?_
      refine g_bipush (by decide) (fun v182 kv182 => ?_)
      refine g_if2_ge (fun c183 => ?_) (fun c183 => ?_)
      · refine g_lload_n rfl ?_
        exact g_lret ⟨_, rfl, rfl⟩
      · refine g_aload_n rfl ?_
        refine g_iload rfl ?_
        refine g_invvi hI hw0 rfl rfl rfl rfl (s_91 w hw v180 (by omega) H hI hJ) (fun v186 H184 r185 => ?_)
        obtain rfl := r185
        refine g_iload_n rfl ?_
        refine g_if2_ne (fun c187 => ?_) (fun c187 => ?_)
        · refine g_iinc (l' := (fun v188 => [(0, .ref w), (1, .int a1), (2, .long v179), (4, .int v188)])) rfl rfl (by decide) (by omega) (fun _ => rfl) (fun v188 ev188 => ?_)
          refine g_goto ?_
          exact ihL181 v179 v188 (by omega) (by omega)
        · refine g_lload_n rfl ?_
          refine g_lconst (fun v189 _ => ?_)
          refine g_iload rfl ?_
          refine g_lshl (fun v190 _ => ?_)
          refine g_lor (fun v191 _ => ?_)
          refine g_lstore_n (l' := [(0, .ref w), (1, .int a1), (2, .long v191), (4, .int v180)]) rfl rfl ?_
          refine g_nop ?_
          refine g_iinc (l' := (fun v192 => [(0, .ref w), (1, .int a1), (2, .long v191), (4, .int v192)])) rfl rfl (by decide) (by omega) (fun _ => rfl) (fun v192 ev192 => ?_)
          refine g_goto ?_
          exact ihL181 v191 v192 (by omega) (by omega)
  exact L181 _ v177 v178 (by omega) (Nat.lt_succ_self _)
set_option maxRecDepth 4000 in
set_option maxHeartbeats 4000000 in
/-- J13.bitCount -/
theorem s_253 (a0 : Int64) (H : mzH) (hI : gI SX H) (hJ : JX H) : gCall 253 [.long a0] H (gRi (fun v H' => H = H')) := by
  refine gG_call [(0, .long a0)] ⟨rfl, trivial⟩ ?_
  show gG 2 zB_253 (mzBlk zB_253 0) [(0, .long a0)] [] H 0 0 _
  refine g_lload_n rfl ?_
  refine g_lload_n rfl ?_
  refine g_iconst (by decide) (fun v117 kv117 => ?_)
  refine g_lushr (fun v118 _ => ?_)
  refine g_ldc2 (fun v119 _ => ?_)
  refine g_land (fun v120 _ => ?_)
  refine g_lsub (fun v121 _ => ?_)
  refine g_lstore_n (l' := [(0, .long v121)]) rfl rfl ?_
  refine g_lload_n rfl ?_
  refine g_ldc2 (fun v122 _ => ?_)
  refine g_land (fun v123 _ => ?_)
  refine g_lload_n rfl ?_
  refine g_iconst (by decide) (fun v124 kv124 => ?_)
  refine g_lushr (fun v125 _ => ?_)
  refine g_ldc2 (fun v126 _ => ?_)
  refine g_land (fun v127 _ => ?_)
  refine g_ladd (fun v128 _ => ?_)
  refine g_lstore_n (l' := [(0, .long v128)]) rfl rfl ?_
  refine g_lload_n rfl ?_
  refine g_lload_n rfl ?_
  refine g_iconst (by decide) (fun v129 kv129 => ?_)
  refine g_lushr (fun v130 _ => ?_)
  refine g_ladd (fun v131 _ => ?_)
  refine g_ldc2 (fun v132 _ => ?_)
  refine g_land (fun v133 _ => ?_)
  refine g_lstore_n (l' := [(0, .long v133)]) rfl rfl ?_
  refine g_lload_n rfl ?_
  refine g_lload_n rfl ?_
  refine g_bipush (by decide) (fun v134 kv134 => ?_)
  refine g_lushr (fun v135 _ => ?_)
  refine g_ladd (fun v136 _ => ?_)
  refine g_lstore_n (l' := [(0, .long v136)]) rfl rfl ?_
  refine g_lload_n rfl ?_
  refine g_lload_n rfl ?_
  refine g_bipush (by decide) (fun v137 kv137 => ?_)
  refine g_lushr (fun v138 _ => ?_)
  refine g_ladd (fun v139 _ => ?_)
  refine g_lstore_n (l' := [(0, .long v139)]) rfl rfl ?_
  refine g_lload_n rfl ?_
  refine g_lload_n rfl ?_
  refine g_bipush (by decide) (fun v140 kv140 => ?_)
  refine g_lushr (fun v141 _ => ?_)
  refine g_ladd (fun v142 _ => ?_)
  refine g_lstore_n (l' := [(0, .long v142)]) rfl rfl ?_
  refine g_lload_n rfl ?_
  refine g_l2i (fun v143 ov143 => ?_)
  refine g_bipush (by decide) (fun v144 kv144 => ?_)
  refine g_iand (by omega) (fun v145 ov145 lv145 uv145 => ?_)
  exact g_iret ⟨_, rfl, rfl⟩
set_option maxRecDepth 4000 in
set_option maxHeartbeats 4000000 in
/-- X5.passages -/
theorem s_61 (a1 : Int32) (a2 : Int32) (H : mzH) (hI : gI SX H) (hJ : JX H) : gCall 61 [.ref 24, .int a1, .int a2] H (gRi (fun v H' => gI SX H' ∧ JX H' ∧ fZ H' 1 1 = fZ H 1 1 ∧ kpX H H')) := by
  obtain ⟨k1_1, ek1_1⟩ : ∃ z, z = fZ H 1 1 := ⟨_, rfl⟩
  have ik1_1 : k1_1.toInt = (fZ H 1 1).toInt := by rw [← ek1_1]
  have bk1_1 : 0 ≤ k1_1.toInt ∧ k1_1.toInt ≤ 900 := by rw [ek1_1]; exact fZ_of hI sx_1 rfl
  have mkfr : kpX H H := kpX_r
  refine gG_call [(0, .ref 24), (1, .int a1), (2, .int a2)] ⟨rfl, rfl, rfl, trivial⟩ ?_
  show gG 7 zB_61 (mzBlk zB_61 0) [(0, .ref 24), (1, .int a1), (2, .int a2)] [] H 0 0 _
  refine g_aload_n rfl ?_
  refine g_gfr hI sx_24 rfl ?_
  refine g_invvv hI sx_28 rfl rfl rfl rfl (s_83 28 zWo_28 H hI hJ) (fun H369 r370 => ?_)
  obtain ⟨hIH369, hJH369, w371, m372⟩ := r370
  have e373 : k1_1 = fZ H369 1 1 := ek1_1.trans w371.symm
  have m374 : kpX H H369 := kpX_t mkfr m372
  refine g_iconst (by decide) (fun v375 kv375 => ?_)
  refine g_istore_n (l' := [(0, .ref 24), (1, .int a1), (2, .int a2), (3, .int v375)]) rfl rfl ?_
  refine g_iconst (by decide) (fun v376 kv376 => ?_)
  refine g_istore (l' := [(0, .ref 24), (1, .int a1), (2, .int a2), (3, .int v375), (4, .int v376)]) rfl rfl ?_
  refine g_nop ?_
  have L382 : ∀ (N : Nat) (v377 : Int32) (v378 : Int32) (H379 : mzH), gI SX H379 → JX H379 → k1_1 = fZ H379 1 1 → kpX H H379 → (0 ≤ v378.toInt ∧ v378.toInt ≤ 60) → (60 - v378.toInt).toNat < N → gG 7 zB_61 (mzBlk zB_61 1) [(0, .ref 24), (1, .int a1), (2, .int a2), (3, .int v377), (4, .int v378)] [] H379 0 0 (gRi (fun v H' => gI SX H' ∧ JX H' ∧ fZ H' 1 1 = fZ H 1 1 ∧ kpX H H')) := by
    intro N
    induction N with
    | zero => intro v377 v378 H379 hIH379 hJH379 e380 m381 bv378 hmL382; exact absurd hmL382 (Nat.not_lt_zero _)
    | succ N ihL382 =>
      intro v377 v378 H379 hIH379 hJH379 e380 m381 bv378 hmL382
      refine g_iload rfl ?_
      refine g_aload_n rfl ?_
      refine g_gfr hIH379 sx_24 rfl ?_
      refine g_gfi hIH379 sx_25 rfl (fun v383 ev383 lv383 uv383 => ?_)
      refine g_if2_ge (fun c384 => ?_) (fun c384 => ?_)
      · refine g_iload_n rfl ?_
        exact g_iret ⟨_, rfl, hIH379, hJH379, (e380.symm.trans ek1_1), m381⟩
      · refine g_aload_n rfl ?_
        refine g_gfr hIH379 sx_24 rfl ?_
        refine g_iload_n rfl ?_
        refine g_invvl hIH379 sx_28 rfl rfl rfl rfl (s_105 28 zWo_28 a1 H379 hIH379 hJH379) (fun v387 H385 r386 => ?_)
        obtain rfl := r386
        refine g_lstore (l' := [(0, .ref 24), (1, .int a1), (2, .int a2), (3, .int v377), (4, .int v378), (5, .long v387)]) rfl rfl ?_
        refine g_aload_n rfl ?_
        refine g_iload rfl ?_
        refine g_invvi hIH379 sx_24 rfl rfl rfl rfl (s_53 v378 (by omega) H379 hIH379 hJH379) (fun v390 H388 r389 => ?_)
        obtain ⟨hIH388, hJH388, w391, m392⟩ := r389
        have e393 : k1_1 = fZ H388 1 1 := e380.trans w391.symm
        have m394 : kpX H H388 := kpX_t m381 m392
        refine g_pop rfl ?_
        refine g_iload_n rfl ?_
        refine g_lload rfl ?_
        refine g_aload_n rfl ?_
        refine g_gfr hIH388 sx_24 rfl ?_
        refine g_iload_n rfl ?_
        refine g_invvl hIH388 sx_28 rfl rfl rfl rfl (s_105 28 zWo_28 a2 H388 hIH388 hJH388) (fun v397 H395 r396 => ?_)
        obtain rfl := r396
        refine g_land (fun v398 _ => ?_)
        refine g_invti rfl rfl rfl (s_253 v398 H388 hIH388 hJH388) (fun v401 H399 r400 => ?_)
        obtain rfl := r400
        refine g_iadd' (fun v402 ov402 => ?_)
        refine g_istore_n (l' := [(0, .ref 24), (1, .int a1), (2, .int a2), (3, .int v402), (4, .int v378), (5, .long v387)]) rfl rfl ?_
        refine g_iinc (l' := (fun v403 => [(0, .ref 24), (1, .int a1), (2, .int a2), (3, .int v402), (4, .int v403), (5, .long v387)])) rfl rfl (by decide) (by omega) (fun _ => rfl) (fun v403 ev403 => ?_)
        refine g_goto ?_
        refine gG_pick [0, 1, 2, 3, 4] (l' := [(0, .ref 24), (1, .int a1), (2, .int a2), (3, .int v402), (4, .int v403)]) rfl ?_
        exact ihL382 v402 v403 H388 hIH388 hJH388 e393 m394 (by omega) (by omega)
  exact L382 _ v375 v376 H369 hIH369 hJH369 e373 m374 (by omega) (Nat.lt_succ_self _)
set_option maxRecDepth 4000 in
set_option maxHeartbeats 4000000 in
/-- X5.hoursOnWays -/
theorem s_62 (a1 : Int32) (ha1 : 0 ≤ a1.toInt ∧ a1.toInt ≤ 39) (H : mzH) (hI : gI SX H) (hJ : JX H) : gCall 62 [.ref 24, .int a1] H (gRi (fun v H' => gI SX H' ∧ JX H' ∧ fZ H' 1 1 = fZ H 1 1 ∧ kpX H H')) := by
  obtain ⟨k1_1, ek1_1⟩ : ∃ z, z = fZ H 1 1 := ⟨_, rfl⟩
  have ik1_1 : k1_1.toInt = (fZ H 1 1).toInt := by rw [← ek1_1]
  have bk1_1 : 0 ≤ k1_1.toInt ∧ k1_1.toInt ≤ 900 := by rw [ek1_1]; exact fZ_of hI sx_1 rfl
  have mkfr : kpX H H := kpX_r
  refine gG_call [(0, .ref 24), (1, .int a1)] ⟨rfl, rfl, trivial⟩ ?_
  show gG 6 zB_62 (mzBlk zB_62 0) [(0, .ref 24), (1, .int a1)] [] H 0 0 _
  refine g_aload_n rfl ?_
  refine g_gfr hI sx_24 rfl ?_
  refine g_invvv hI sx_28 rfl rfl rfl rfl (s_83 28 zWo_28 H hI hJ) (fun H443 r444 => ?_)
  obtain ⟨hIH443, hJH443, w445, m446⟩ := r444
  have e447 : k1_1 = fZ H443 1 1 := ek1_1.trans w445.symm
  have m448 : kpX H H443 := kpX_t mkfr m446
  refine g_bipush (by decide) (fun v449 kv449 => ?_)
  refine g_istore_n (l' := [(0, .ref 24), (1, .int a1), (2, .int v449)]) rfl rfl ?_
  refine g_iconst (by decide) (fun v450 kv450 => ?_)
  refine g_istore_n (l' := [(0, .ref 24), (1, .int a1), (2, .int v449), (3, .int v450)]) rfl rfl ?_
  refine g_iconst (by decide) (fun v451 kv451 => ?_)
  refine g_istore (l' := [(0, .ref 24), (1, .int a1), (2, .int v449), (3, .int v450), (4, .int v451)]) rfl rfl ?_
  refine g_nop ?_
  have L458 : ∀ (N : Nat) (v452 : Int32) (v453 : Int32) (v454 : Int32) (H455 : mzH), gI SX H455 → JX H455 → k1_1 = fZ H455 1 1 → kpX H H455 → (-2 ≤ v452.toInt ∧ v452.toInt ≤ 2147483647) → (0 ≤ v454.toInt ∧ v454.toInt ≤ 60) → (60 - v454.toInt).toNat < N → gG 6 zB_62 (mzBlk zB_62 1) [(0, .ref 24), (1, .int a1), (2, .int v452), (3, .int v453), (4, .int v454)] [] H455 0 0 (gRi (fun v H' => gI SX H' ∧ JX H' ∧ fZ H' 1 1 = fZ H 1 1 ∧ kpX H H')) := by
    intro N
    induction N with
    | zero => intro v452 v453 v454 H455 hIH455 hJH455 e456 m457 bv452 bv454 hmL458; exact absurd hmL458 (Nat.not_lt_zero _)
    | succ N ihL458 =>
      intro v452 v453 v454 H455 hIH455 hJH455 e456 m457 bv452 bv454 hmL458
      refine g_iload rfl ?_
      refine g_aload_n rfl ?_
      refine g_gfr hIH455 sx_24 rfl ?_
      refine g_gfi hIH455 sx_25 rfl (fun v459 ev459 lv459 uv459 => ?_)
      refine g_if2_ge (fun c460 => ?_) (fun c460 => ?_)
      · refine g_aload_n rfl ?_
        refine g_gfr hIH455 sx_24 rfl ?_
        refine g_iload_n rfl ?_
        refine g_invvi hIH455 sx_28 rfl rfl rfl rfl (s_88 28 zWo_28 a1 (by omega) H455 hIH455 hJH455) (fun v463 H461 r462 => ?_)
        obtain ⟨rfl, bv463⟩ := r462
        refine g_if_eq (fun c464 => ?_) (fun c464 => ?_)
        · refine g_bipush (by decide) (fun v465 kv465 => ?_)
          refine g_nop ?_
          exact g_iret ⟨_, rfl, hIH455, hJH455, (e456.symm.trans ek1_1), m457⟩
        · refine g_iload_n rfl ?_
          refine g_goto ?_
          exact g_iret ⟨_, rfl, hIH455, hJH455, (e456.symm.trans ek1_1), m457⟩
      · refine g_aload_n rfl ?_
        refine g_iload rfl ?_
        refine g_invvi hIH455 sx_24 rfl rfl rfl rfl (s_53 v454 (by omega) H455 hIH455 hJH455) (fun v468 H466 r467 => ?_)
        obtain ⟨hIH466, hJH466, w469, m470⟩ := r467
        have e471 : k1_1 = fZ H466 1 1 := e456.trans w469.symm
        have m472 : kpX H H466 := kpX_t m457 m470
        refine g_pop rfl ?_
        refine g_aload_n rfl ?_
        refine g_gfr hIH466 sx_24 rfl ?_
        refine g_iload_n rfl ?_
        refine g_invvi hIH466 sx_28 rfl rfl rfl rfl (s_91 28 zWo_28 a1 (by omega) H466 hIH466 hJH466) (fun v475 H473 r474 => ?_)
        obtain rfl := r474
        refine g_istore (l' := [(0, .ref 24), (1, .int a1), (2, .int v452), (3, .int v453), (4, .int v454), (5, .int v475)]) rfl rfl ?_
        refine g_iload rfl ?_
        refine g_if_lt (fun c476 => ?_) (fun c476 => ?_)
        · refine g_iinc (l' := (fun v477 => [(0, .ref 24), (1, .int a1), (2, .int v452), (3, .int v453), (4, .int v477), (5, .int v475)])) rfl rfl (by decide) (by omega) (fun _ => rfl) (fun v477 ev477 => ?_)
          refine g_goto ?_
          refine gG_pick [0, 1, 2, 3, 4] (l' := [(0, .ref 24), (1, .int a1), (2, .int v452), (3, .int v453), (4, .int v477)]) rfl ?_
          exact ihL458 v452 v453 v477 H466 hIH466 hJH466 e471 m472 (by have := gz_any v452; omega) (by omega) (by omega)
        · refine g_iload_n rfl ?_
          refine g_iconst (by decide) (fun v478 kv478 => ?_)
          refine g_aload_n rfl ?_
          refine g_gfr hIH466 sx_24 rfl ?_
          refine g_iload_n rfl ?_
          refine g_iload rfl ?_
          refine g_invvi hIH466 sx_3 rfl rfl rfl rfl (s_17 3 zBo_3 v452 v475 H466 hIH466 hJH466) (fun v481 H479 r480 => ?_)
          obtain rfl := r480
          refine g_max rfl (fun v482 av482 bv482 dv482 => ?_)
          refine g_iadd' (fun v483 ov483 => ?_)
          refine g_istore_n (l' := [(0, .ref 24), (1, .int a1), (2, .int v452), (3, .int v483), (4, .int v454), (5, .int v475)]) rfl rfl ?_
          refine g_iload rfl ?_
          refine g_istore_n (l' := [(0, .ref 24), (1, .int a1), (2, .int v475), (3, .int v483), (4, .int v454), (5, .int v475)]) rfl rfl ?_
          refine g_nop ?_
          refine g_iinc (l' := (fun v484 => [(0, .ref 24), (1, .int a1), (2, .int v475), (3, .int v483), (4, .int v484), (5, .int v475)])) rfl rfl (by decide) (by omega) (fun _ => rfl) (fun v484 ev484 => ?_)
          refine g_goto ?_
          refine gG_pick [0, 1, 2, 3, 4] (l' := [(0, .ref 24), (1, .int a1), (2, .int v475), (3, .int v483), (4, .int v484)]) rfl ?_
          exact ihL458 v475 v483 v484 H466 hIH466 hJH466 e471 m472 (by have := gz_any v475; omega) (by omega) (by omega)
  exact L458 _ v449 v450 v451 H443 hIH443 hJH443 e447 m448 (by have := gz_any v449; omega) (by omega) (Nat.lt_succ_self _)
set_option maxRecDepth 4000 in
set_option maxHeartbeats 4000000 in
/-- X5.busiest -/
theorem s_63 (a1 : Int32) (a2 : Int32) (ha2 : 0 ≤ a2.toInt ∧ a2.toInt ≤ 1) (H : mzH) (hI : gI SX H) (hJ : JX H) : gCall 63 [.ref 24, .int a1, .int a2] H (gRi (fun v H' => gI SX H' ∧ JX H' ∧ fZ H' 1 1 = fZ H 1 1 ∧ kpX H H')) := by
  obtain ⟨k1_1, ek1_1⟩ : ∃ z, z = fZ H 1 1 := ⟨_, rfl⟩
  have ik1_1 : k1_1.toInt = (fZ H 1 1).toInt := by rw [← ek1_1]
  have bk1_1 : 0 ≤ k1_1.toInt ∧ k1_1.toInt ≤ 900 := by rw [ek1_1]; exact fZ_of hI sx_1 rfl
  have mkfr : kpX H H := kpX_r
  refine gG_call [(0, .ref 24), (1, .int a1), (2, .int a2)] ⟨rfl, rfl, rfl, trivial⟩ ?_
  show gG 7 zB_63 (mzBlk zB_63 0) [(0, .ref 24), (1, .int a1), (2, .int a2)] [] H 0 0 _
  refine g_aload_n rfl ?_
  refine g_gfr hI sx_24 rfl ?_
  refine g_invvv hI sx_28 rfl rfl rfl rfl (s_83 28 zWo_28 H hI hJ) (fun H429 r430 => ?_)
  obtain ⟨hIH429, hJH429, w431, m432⟩ := r430
  have e433 : k1_1 = fZ H429 1 1 := ek1_1.trans w431.symm
  have m434 : kpX H H429 := kpX_t mkfr m432
  refine g_iconst (by decide) (fun v435 kv435 => ?_)
  refine g_istore_n (l' := [(0, .ref 24), (1, .int a1), (2, .int a2), (3, .int v435)]) rfl rfl ?_
  refine g_bipush (by decide) (fun v436 kv436 => ?_)
  refine g_istore (l' := [(0, .ref 24), (1, .int a1), (2, .int a2), (3, .int v435), (4, .int v436)]) rfl rfl ?_
  refine g_iconst (by decide) (fun v437 kv437 => ?_)
  refine g_istore (l' := [(0, .ref 24), (1, .int a1), (2, .int a2), (3, .int v435), (4, .int v436), (5, .int v437)]) rfl rfl ?_
  refine g_nop ?_
  have L444 : ∀ (N : Nat) (v438 : Int32) (v439 : Int32) (v440 : Int32) (H441 : mzH), gI SX H441 → JX H441 → k1_1 = fZ H441 1 1 → kpX H H441 → (-1 ≤ v438.toInt ∧ v438.toInt ≤ 2147483647) → (0 ≤ v440.toInt ∧ v440.toInt ≤ 60) → (60 - v440.toInt).toNat < N → gG 7 zB_63 (mzBlk zB_63 1) [(0, .ref 24), (1, .int a1), (2, .int a2), (3, .int v438), (4, .int v439), (5, .int v440)] [] H441 0 0 (gRi (fun v H' => gI SX H' ∧ JX H' ∧ fZ H' 1 1 = fZ H 1 1 ∧ kpX H H')) := by
    intro N
    induction N with
    | zero => intro v438 v439 v440 H441 hIH441 hJH441 e442 m443 bv438 bv440 hmL444; exact absurd hmL444 (Nat.not_lt_zero _)
    | succ N ihL444 =>
      intro v438 v439 v440 H441 hIH441 hJH441 e442 m443 bv438 bv440 hmL444
      refine g_iload rfl ?_
      refine g_aload_n rfl ?_
      refine g_gfr hIH441 sx_24 rfl ?_
      refine g_gfi hIH441 sx_25 rfl (fun v445 ev445 lv445 uv445 => ?_)
      refine g_if2_ge (fun c446 => ?_) (fun c446 => ?_)
      · refine g_iload_n rfl ?_
        refine g_if_eq (fun c447 => ?_) (fun c447 => ?_)
        · refine g_iload rfl ?_
          refine g_nop ?_
          exact g_iret ⟨_, rfl, hIH441, hJH441, (e442.symm.trans ek1_1), m443⟩
        · refine g_iconst (by decide) (fun v448 kv448 => ?_)
          refine g_iload_n rfl ?_
          refine g_max rfl (fun v449 av449 bv449 dv449 => ?_)
          refine g_goto ?_
          exact g_iret ⟨_, rfl, hIH441, hJH441, (e442.symm.trans ek1_1), m443⟩
      · refine g_aload_n rfl ?_
        refine g_iload rfl ?_
        refine g_invvi hIH441 sx_24 rfl rfl rfl rfl (s_53 v440 (by omega) H441 hIH441 hJH441) (fun v452 H450 r451 => ?_)
        obtain ⟨hIH450, hJH450, w453, m454⟩ := r451
        have e455 : k1_1 = fZ H450 1 1 := e442.trans w453.symm
        have m456 : kpX H H450 := kpX_t m443 m454
        refine g_pop rfl ?_
        refine g_aload_n rfl ?_
        refine g_gfr hIH450 sx_24 rfl ?_
        refine g_iload_n rfl ?_
        refine g_invvl hIH450 sx_28 rfl rfl rfl rfl (s_105 28 zWo_28 a1 H450 hIH450 hJH450) (fun v459 H457 r458 => ?_)
        obtain rfl := r458
        refine g_invti rfl rfl rfl (s_253 v459 H450 hIH450 hJH450) (fun v462 H460 r461 => ?_)
        obtain rfl := r461
        refine g_istore (l' := [(0, .ref 24), (1, .int a1), (2, .int a2), (3, .int v438), (4, .int v439), (5, .int v440), (6, .int v462)]) rfl rfl ?_
        refine g_iload rfl ?_
        refine g_iload_n rfl ?_
        refine g_if2_le (fun c463 => ?_) (fun c463 => ?_)
        · refine g_iinc (l' := (fun v464 => [(0, .ref 24), (1, .int a1), (2, .int a2), (3, .int v438), (4, .int v439), (5, .int v464), (6, .int v462)])) rfl rfl (by decide) (by omega) (fun _ => rfl) (fun v464 ev464 => ?_)
          refine g_goto ?_
          refine gG_pick [0, 1, 2, 3, 4, 5] (l' := [(0, .ref 24), (1, .int a1), (2, .int a2), (3, .int v438), (4, .int v439), (5, .int v464)]) rfl ?_
          exact ihL444 v438 v439 v464 H450 hIH450 hJH450 e455 m456 (by have := gz_any v438; omega) (by omega) (by omega)
        · refine g_iload rfl ?_
          refine g_istore_n (l' := [(0, .ref 24), (1, .int a1), (2, .int a2), (3, .int v462), (4, .int v439), (5, .int v440), (6, .int v462)]) rfl rfl ?_
          refine g_aload_n rfl ?_
          refine g_gfr hIH450 sx_24 rfl ?_
          refine g_iload rfl ?_
          refine g_invvi hIH450 sx_25 rfl rfl rfl rfl (s_27 25 zCo_25 v440 (by omega) H450 hIH450 hJH450) (fun v467 H465 r466 => ?_)
          obtain rfl := r466
          refine g_istore (l' := [(0, .ref 24), (1, .int a1), (2, .int a2), (3, .int v462), (4, .int v467), (5, .int v440), (6, .int v462)]) rfl rfl ?_
          refine g_nop ?_
          refine g_iinc (l' := (fun v468 => [(0, .ref 24), (1, .int a1), (2, .int a2), (3, .int v462), (4, .int v467), (5, .int v468), (6, .int v462)])) rfl rfl (by decide) (by omega) (fun _ => rfl) (fun v468 ev468 => ?_)
          refine g_goto ?_
          refine gG_pick [0, 1, 2, 3, 4, 5] (l' := [(0, .ref 24), (1, .int a1), (2, .int a2), (3, .int v462), (4, .int v467), (5, .int v468)]) rfl ?_
          exact ihL444 v462 v467 v468 H450 hIH450 hJH450 e455 m456 (by have := gz_any v462; omega) (by omega) (by omega)
  exact L444 _ v435 v436 v437 H429 hIH429 hJH429 e433 m434 (by have := gz_any v435; omega) (by omega) (Nat.lt_succ_self _)
set_option maxRecDepth 4000 in
set_option maxHeartbeats 4000000 in
/-- X8.withCompany -/
theorem s_107 (w : Nat) (hw : zWo w) (a1 : Int64) (H : mzH) (hI : gI SX H) (hJ : JX H) : gCall 107 [.ref w, .long a1] H (gRl (fun _ H' => H = H')) := by
  obtain ⟨hwr, hw0, hw1, hw2, hw3, hw4, hw5, hw6⟩ := id hw
  refine gG_call [(0, .ref w), (1, .long a1)] ⟨rfl, rfl, trivial⟩ ?_
  show gG 8 zB_107 (mzBlk zB_107 0) [(0, .ref w), (1, .long a1)] [] H 0 0 _
  refine g_lconst (fun v553 _ => ?_)
  refine g_lstore_n (l' := [(0, .ref w), (1, .long a1), (3, .long v553)]) rfl rfl ?_
  refine g_iconst (by decide) (fun v554 kv554 => ?_)
  refine g_istore (l' := [(0, .ref w), (1, .long a1), (3, .long v553), (5, .int v554)]) rfl rfl ?_
  refine g_nop ?_
  have L557 : ∀ (N : Nat) (v555 : Int64) (v556 : Int32), (0 ≤ v556.toInt ∧ v556.toInt ≤ 40) → (40 - v556.toInt).toNat < N → gG 8 zB_107 (mzBlk zB_107 1) [(0, .ref w), (1, .long a1), (3, .long v555), (5, .int v556)] [] H 0 0 (gRl (fun _ H' => H = H')) := by
    intro N
    induction N with
    | zero => intro v555 v556 bv556 hmL557; exact absurd hmL557 (Nat.not_lt_zero _)
    | succ N ihL557 =>
      intro v555 v556 bv556 hmL557
      refine g_iload rfl ?_
      refine g_bipush (by decide) (fun v558 kv558 => ?_)
      refine g_if2_ge (fun c559 => ?_) (fun c559 => ?_)
      · refine g_lload_n rfl ?_
        refine g_lstore (l' := [(0, .ref w), (1, .long a1), (3, .long v555), (5, .long a1)]) rfl rfl ?_
        refine g_iconst (by decide) (fun v560 kv560 => ?_)
        refine g_istore (l' := [(0, .ref w), (1, .long a1), (3, .long v555), (5, .long a1), (7, .int v560)]) rfl rfl ?_
        refine g_nop ?_
        have L563 : ∀ (N : Nat) (v561 : Int64) (v562 : Int32), (0 ≤ v562.toInt ∧ v562.toInt ≤ 40) → (40 - v562.toInt).toNat < N → gG 8 zB_107 (mzBlk zB_107 4) [(0, .ref w), (1, .long a1), (3, .long v555), (5, .long v561), (7, .int v562)] [] H 0 0 (gRl (fun _ H' => H = H')) := by
          intro N
          induction N with
          | zero => intro v561 v562 bv562 hmL563; exact absurd hmL563 (Nat.not_lt_zero _)
          | succ N ihL563 =>
            intro v561 v562 bv562 hmL563
            refine g_iload rfl ?_
            refine g_bipush (by decide) (fun v564 kv564 => ?_)
            refine g_if2_ge (fun c565 => ?_) (fun c565 => ?_)
            · refine g_lload rfl ?_
              exact g_lret ⟨_, rfl, rfl⟩
            · refine g_lload_n rfl ?_
              refine g_aload_n rfl ?_
              refine g_iload rfl ?_
              refine g_invvi hI hw0 rfl rfl rfl rfl (s_89 w hw v562 (by omega) H hI hJ) (fun v568 H566 r567 => ?_)
              obtain ⟨rfl, bv568⟩ := r567
              refine g_lushr (fun v569 _ => ?_)
              refine g_lconst (fun v570 _ => ?_)
              refine g_land (fun v571 _ => ?_)
              refine g_lconst (fun v572 _ => ?_)
              refine g_lcmp (fun v573 _ => ?_)
              refine g_if_eq (fun c574 => ?_) (fun c574 => ?_)
              · refine g_iinc (l' := (fun v575 => [(0, .ref w), (1, .long a1), (3, .long v555), (5, .long v561), (7, .int v575)])) rfl rfl (by decide) (by omega) (fun _ => rfl) (fun v575 ev575 => ?_)
                refine g_goto ?_
                exact ihL563 v561 v575 (by omega) (by omega)
              · refine g_lload rfl ?_
                refine g_lconst (fun v576 _ => ?_)
                refine g_iload rfl ?_
                refine g_lshl (fun v577 _ => ?_)
                refine g_lor (fun v578 _ => ?_)
                refine g_lstore (l' := [(0, .ref w), (1, .long a1), (3, .long v555), (5, .long v578), (7, .int v562)]) rfl rfl ?_
                refine g_nop ?_
                refine g_iinc (l' := (fun v579 => [(0, .ref w), (1, .long a1), (3, .long v555), (5, .long v578), (7, .int v579)])) rfl rfl (by decide) (by omega) (fun _ => rfl) (fun v579 ev579 => ?_)
                refine g_goto ?_
                exact ihL563 v578 v579 (by omega) (by omega)
        exact L563 _ a1 v560 (by omega) (Nat.lt_succ_self _)
      · refine g_lload_n rfl ?_
        refine g_iload rfl ?_
        refine g_lushr (fun v580 _ => ?_)
        refine g_lconst (fun v581 _ => ?_)
        refine g_land (fun v582 _ => ?_)
        refine g_lconst (fun v583 _ => ?_)
        refine g_lcmp (fun v584 _ => ?_)
        refine g_if_eq (fun c585 => ?_) (fun c585 => ?_)
        · refine g_iinc (l' := (fun v586 => [(0, .ref w), (1, .long a1), (3, .long v555), (5, .int v586)])) rfl rfl (by decide) (by omega) (fun _ => rfl) (fun v586 ev586 => ?_)
          refine g_goto ?_
          exact ihL557 v555 v586 (by omega) (by omega)
        · refine g_aload_n rfl ?_
          refine g_iload rfl ?_
          refine g_iconst (by decide) (fun v587 kv587 => ?_)
          refine g_invvi hI hw0 rfl rfl rfl rfl (s_85 w hw v556 (by omega) v587 H hI hJ) (fun v590 H588 r589 => ?_)
          obtain ⟨rfl, bv590⟩ := r589
          refine g_if_ne (fun c591 => ?_) (fun c591 => ?_)
          · refine g_iinc (l' := (fun v592 => [(0, .ref w), (1, .long a1), (3, .long v555), (5, .int v592)])) rfl rfl (by decide) (by omega) (fun _ => rfl) (fun v592 ev592 => ?_)
            refine g_goto ?_
            exact ihL557 v555 v592 (by omega) (by omega)
          · refine g_lload_n rfl ?_
            refine g_lconst (fun v593 _ => ?_)
            refine g_aload_n rfl ?_
            refine g_iload rfl ?_
            refine g_invvi hI hw0 rfl rfl rfl rfl (s_89 w hw v556 (by omega) H hI hJ) (fun v596 H594 r595 => ?_)
            obtain ⟨rfl, bv596⟩ := r595
            refine g_lshl (fun v597 _ => ?_)
            refine g_lor (fun v598 _ => ?_)
            refine g_lstore_n (l' := [(0, .ref w), (1, .long a1), (3, .long v598), (5, .int v556)]) rfl rfl ?_
            refine g_nop ?_
            refine g_iinc (l' := (fun v599 => [(0, .ref w), (1, .long a1), (3, .long v598), (5, .int v599)])) rfl rfl (by decide) (by omega) (fun _ => rfl) (fun v599 ev599 => ?_)
            refine g_goto ?_
            exact ihL557 v598 v599 (by omega) (by omega)
  exact L557 _ v553 v554 (by omega) (Nat.lt_succ_self _)
set_option maxRecDepth 4000 in
set_option maxHeartbeats 4000000 in
/-- X5.allMet -/
theorem s_64 (a1 : Int32) (ha1 : 0 ≤ a1.toInt ∧ a1.toInt ≤ 39) (a2 : Int32) (H : mzH) (hI : gI SX H) (hJ : JX H) : gCall 64 [.ref 24, .int a1, .int a2] H (gRl (fun _ H' => gI SX H' ∧ JX H' ∧ fZ H' 1 1 = fZ H 1 1 ∧ kpX H H')) := by
  obtain ⟨k1_1, ek1_1⟩ : ∃ z, z = fZ H 1 1 := ⟨_, rfl⟩
  have ik1_1 : k1_1.toInt = (fZ H 1 1).toInt := by rw [← ek1_1]
  have bk1_1 : 0 ≤ k1_1.toInt ∧ k1_1.toInt ≤ 900 := by rw [ek1_1]; exact fZ_of hI sx_1 rfl
  have mkfr : kpX H H := kpX_r
  refine gG_call [(0, .ref 24), (1, .int a1), (2, .int a2)] ⟨rfl, rfl, rfl, trivial⟩ ?_
  show gG 7 zB_64 (mzBlk zB_64 0) [(0, .ref 24), (1, .int a1), (2, .int a2)] [] H 0 0 _
  refine g_aload_n rfl ?_
  refine g_iload_n rfl ?_
  refine g_invvi hI sx_24 rfl rfl rfl rfl (s_54 a2 H hI hJ) (fun v163 H161 r162 => ?_)
  obtain ⟨hIH161, hJH161, bv163, w164, m165⟩ := r162
  have e166 : k1_1 = fZ H161 1 1 := ek1_1.trans w164.symm
  have m167 : kpX H H161 := kpX_t mkfr m165
  refine g_istore_n (l' := [(0, .ref 24), (1, .int a1), (2, .int a2), (3, .int v163)]) rfl rfl ?_
  refine g_aload_n rfl ?_
  refine g_gfr hIH161 sx_24 rfl ?_
  refine g_iload_n rfl ?_
  refine g_invvi hIH161 sx_28 rfl rfl rfl rfl (s_88 28 zWo_28 a1 (by omega) H161 hIH161 hJH161) (fun v170 H168 r169 => ?_)
  obtain ⟨rfl, bv170⟩ := r169
  refine g_if_eq (fun c171 => ?_) (fun c171 => ?_)
  · refine g_lconst (fun v172 _ => ?_)
    exact g_lret ⟨_, rfl, hIH161, hJH161, (e166.symm.trans ek1_1), m167⟩
  · refine g_aload_n rfl ?_
    refine g_gfr hIH161 sx_24 rfl ?_
    refine g_iload_n rfl ?_
    refine g_iconst (by decide) (fun v173 kv173 => ?_)
    refine g_invvi hIH161 sx_28 rfl rfl rfl rfl (s_85 28 zWo_28 a1 (by omega) v173 H161 hIH161 hJH161) (fun v176 H174 r175 => ?_)
    obtain ⟨rfl, bv176⟩ := r175
    refine g_if_eq (fun c177 => ?_) (fun c177 => ?_)
    · refine g_aload_n rfl ?_
      refine g_gfr hIH161 sx_24 rfl ?_
      refine g_lconst (fun v178 _ => ?_)
      refine g_iload_n rfl ?_
      refine g_lshl (fun v179 _ => ?_)
      refine g_invvl hIH161 sx_28 rfl rfl rfl rfl (s_107 28 zWo_28 v179 H161 hIH161 hJH161) (fun v182 H180 r181 => ?_)
      obtain rfl := r181
      refine g_lstore (l' := [(0, .ref 24), (1, .int a1), (2, .int a2), (3, .int v163), (4, .long v182)]) rfl rfl ?_
      refine g_iload_n rfl ?_
      refine g_istore (l' := [(0, .ref 24), (1, .int a1), (2, .int a2), (3, .int v163), (4, .long v182), (6, .int v163)]) rfl rfl ?_
      refine g_nop ?_
      have L188 : ∀ (N : Nat) (v183 : Int64) (v184 : Int32) (H185 : mzH), gI SX H185 → JX H185 → k1_1 = fZ H185 1 1 → kpX H H185 → (0 ≤ v184.toInt ∧ v184.toInt ≤ 60) → (60 - v184.toInt).toNat < N → gG 7 zB_64 (mzBlk zB_64 3) [(0, .ref 24), (1, .int a1), (2, .int a2), (3, .int v163), (4, .long v183), (6, .int v184)] [] H185 0 0 (gRl (fun _ H' => gI SX H' ∧ JX H' ∧ fZ H' 1 1 = fZ H 1 1 ∧ kpX H H')) := by
        intro N
        induction N with
        | zero => intro v183 v184 H185 hIH185 hJH185 e186 m187 bv184 hmL188; exact absurd hmL188 (Nat.not_lt_zero _)
        | succ N ihL188 =>
          intro v183 v184 H185 hIH185 hJH185 e186 m187 bv184 hmL188
          refine g_iload rfl ?_
          refine g_aload_n rfl ?_
          refine g_gfr hIH185 sx_24 rfl ?_
          refine g_gfi hIH185 sx_25 rfl (fun v189 ev189 lv189 uv189 => ?_)
          refine g_if2_ge (fun c190 => ?_) (fun c190 => ?_)
          · refine g_lload rfl ?_
            exact g_lret ⟨_, rfl, hIH185, hJH185, (e186.symm.trans ek1_1), m187⟩
          · refine g_aload_n rfl ?_
            refine g_iload rfl ?_
            refine g_invvi hIH185 sx_24 rfl rfl rfl rfl (s_53 v184 (by omega) H185 hIH185 hJH185) (fun v193 H191 r192 => ?_)
            obtain ⟨hIH191, hJH191, w194, m195⟩ := r192
            have e196 : k1_1 = fZ H191 1 1 := e186.trans w194.symm
            have m197 : kpX H H191 := kpX_t m187 m195
            refine g_pop rfl ?_
            refine g_aload_n rfl ?_
            refine g_gfr hIH191 sx_24 rfl ?_
            refine g_lload rfl ?_
            refine g_invvl hIH191 sx_28 rfl rfl rfl rfl (s_107 28 zWo_28 v183 H191 hIH191 hJH191) (fun v200 H198 r199 => ?_)
            obtain rfl := r199
            refine g_lstore (l' := [(0, .ref 24), (1, .int a1), (2, .int a2), (3, .int v163), (4, .long v200), (6, .int v184)]) rfl rfl ?_
            refine g_iinc (l' := (fun v201 => [(0, .ref 24), (1, .int a1), (2, .int a2), (3, .int v163), (4, .long v200), (6, .int v201)])) rfl rfl (by decide) (by omega) (fun _ => rfl) (fun v201 ev201 => ?_)
            refine g_goto ?_
            exact ihL188 v200 v201 H191 hIH191 hJH191 e196 m197 (by omega) (by omega)
      exact L188 _ v182 v163 H161 hIH161 hJH161 e166 m167 (by omega) (Nat.lt_succ_self _)
    · refine g_nop ?_
      refine g_lconst (fun v202 _ => ?_)
      exact g_lret ⟨_, rfl, hIH161, hJH161, (e166.symm.trans ek1_1), m167⟩
set_option maxRecDepth 4000 in
set_option maxHeartbeats 4000000 in
/-- X8.contents -/
theorem s_104 (w : Nat) (hw : zWo w) (a1 : Int32) (H : mzH) (hI : gI SX H) (hJ : JX H) : gCall 104 [.ref w, .int a1] H (gRl (fun _ H' => H = H')) := by
  obtain ⟨hwr, hw0, hw1, hw2, hw3, hw4, hw5, hw6⟩ := id hw
  refine gG_call [(0, .ref w), (1, .int a1)] ⟨rfl, rfl, trivial⟩ ?_
  show gG 5 zB_104 (mzBlk zB_104 0) [(0, .ref w), (1, .int a1)] [] H 0 0 _
  refine g_lconst (fun v177 _ => ?_)
  refine g_lstore_n (l' := [(0, .ref w), (1, .int a1), (2, .long v177)]) rfl rfl ?_
  refine g_iconst (by decide) (fun v178 kv178 => ?_)
  refine g_istore (l' := [(0, .ref w), (1, .int a1), (2, .long v177), (4, .int v178)]) rfl rfl ?_
  refine g_nop ?_
  have L181 : ∀ (N : Nat) (v179 : Int64) (v180 : Int32), (0 ≤ v180.toInt ∧ v180.toInt ≤ 40) → (40 - v180.toInt).toNat < N → gG 5 zB_104 (mzBlk zB_104 1) [(0, .ref w), (1, .int a1), (2, .long v179), (4, .int v180)] [] H 0 0 (gRl (fun _ H' => H = H')) := by
    intro N
    induction N with
    | zero => intro v179 v180 bv180 hmL181; exact absurd hmL181 (Nat.not_lt_zero _)
    | succ N ihL181 =>
      intro v179 v180 bv180 hmL181
      refine g_iload rfl ?_
      refine g_bipush (by decide) (fun v182 kv182 => ?_)
      refine g_if2_ge (fun c183 => ?_) (fun c183 => ?_)
      · refine g_lload_n rfl ?_
        exact g_lret ⟨_, rfl, rfl⟩
      · refine g_aload_n rfl ?_
        refine g_iload rfl ?_
        refine g_iload_n rfl ?_
        refine g_invvi hI hw0 rfl rfl rfl rfl (s_90 w hw v180 (by omega) a1 H hI hJ) (fun v186 H184 r185 => ?_)
        obtain ⟨rfl, bv186⟩ := r185
        refine g_if_eq (fun c187 => ?_) (fun c187 => ?_)
        · refine g_iinc (l' := (fun v188 => [(0, .ref w), (1, .int a1), (2, .long v179), (4, .int v188)])) rfl rfl (by decide) (by omega) (fun _ => rfl) (fun v188 ev188 => ?_)
          refine g_goto ?_
          exact ihL181 v179 v188 (by omega) (by omega)
        · refine g_lload_n rfl ?_
          refine g_lconst (fun v189 _ => ?_)
          refine g_iload rfl ?_
          refine g_lshl (fun v190 _ => ?_)
          refine g_lor (fun v191 _ => ?_)
          refine g_lstore_n (l' := [(0, .ref w), (1, .int a1), (2, .long v191), (4, .int v180)]) rfl rfl ?_
          refine g_nop ?_
          refine g_iinc (l' := (fun v192 => [(0, .ref w), (1, .int a1), (2, .long v191), (4, .int v192)])) rfl rfl (by decide) (by omega) (fun _ => rfl) (fun v192 ev192 => ?_)
          refine g_goto ?_
          exact ihL181 v191 v192 (by omega) (by omega)
  exact L181 _ v177 v178 (by omega) (Nat.lt_succ_self _)
set_option maxRecDepth 4000 in
set_option maxHeartbeats 4000000 in
/-- X5.allHeld -/
theorem s_65 (a1 : Int32) (a2 : Int32) (a3 : Int32) (H : mzH) (hI : gI SX H) (hJ : JX H) : gCall 65 [.ref 24, .int a1, .int a2, .int a3] H (gRl (fun _ H' => gI SX H' ∧ JX H' ∧ fZ H' 1 1 = fZ H 1 1 ∧ kpX H H')) := by
  obtain ⟨k1_1, ek1_1⟩ : ∃ z, z = fZ H 1 1 := ⟨_, rfl⟩
  have ik1_1 : k1_1.toInt = (fZ H 1 1).toInt := by rw [← ek1_1]
  have bk1_1 : 0 ≤ k1_1.toInt ∧ k1_1.toInt ≤ 900 := by rw [ek1_1]; exact fZ_of hI sx_1 rfl
  have mkfr : kpX H H := kpX_r
  refine gG_call [(0, .ref 24), (1, .int a1), (2, .int a2), (3, .int a3)] ⟨rfl, rfl, rfl, rfl, trivial⟩ ?_
  show gG 8 zB_65 (mzBlk zB_65 0) [(0, .ref 24), (1, .int a1), (2, .int a2), (3, .int a3)] [] H 0 0 _
  refine g_aload_n rfl ?_
  refine g_iload_n rfl ?_
  refine g_invvi hI sx_24 rfl rfl rfl rfl (s_54 a2 H hI hJ) (fun v135 H133 r134 => ?_)
  obtain ⟨hIH133, hJH133, bv135, w136, m137⟩ := r134
  have e138 : k1_1 = fZ H133 1 1 := ek1_1.trans w136.symm
  have m139 : kpX H H133 := kpX_t mkfr m137
  refine g_istore (l' := [(0, .ref 24), (1, .int a1), (2, .int a2), (3, .int a3), (4, .int v135)]) rfl rfl ?_
  refine g_aload_n rfl ?_
  refine g_gfr hIH133 sx_24 rfl ?_
  refine g_iload_n rfl ?_
  refine g_invvl hIH133 sx_28 rfl rfl rfl rfl (s_104 28 zWo_28 a1 H133 hIH133 hJH133) (fun v142 H140 r141 => ?_)
  obtain rfl := r141
  refine g_lstore (l' := [(0, .ref 24), (1, .int a1), (2, .int a2), (3, .int a3), (4, .int v135), (5, .long v142)]) rfl rfl ?_
  refine g_iload rfl ?_
  refine g_istore (l' := [(0, .ref 24), (1, .int a1), (2, .int a2), (3, .int a3), (4, .int v135), (5, .long v142), (7, .int v135)]) rfl rfl ?_
  refine g_nop ?_
  have L148 : ∀ (N : Nat) (v143 : Int64) (v144 : Int32) (H145 : mzH), gI SX H145 → JX H145 → k1_1 = fZ H145 1 1 → kpX H H145 → (0 ≤ v144.toInt ∧ v144.toInt ≤ 60) → (60 - v144.toInt).toNat < N → gG 8 zB_65 (mzBlk zB_65 1) [(0, .ref 24), (1, .int a1), (2, .int a2), (3, .int a3), (4, .int v135), (5, .long v143), (7, .int v144)] [] H145 0 0 (gRl (fun _ H' => gI SX H' ∧ JX H' ∧ fZ H' 1 1 = fZ H 1 1 ∧ kpX H H')) := by
    intro N
    induction N with
    | zero => intro v143 v144 H145 hIH145 hJH145 e146 m147 bv144 hmL148; exact absurd hmL148 (Nat.not_lt_zero _)
    | succ N ihL148 =>
      intro v143 v144 H145 hIH145 hJH145 e146 m147 bv144 hmL148
      refine g_iload rfl ?_
      refine g_aload_n rfl ?_
      refine g_gfr hIH145 sx_24 rfl ?_
      refine g_gfi hIH145 sx_25 rfl (fun v149 ev149 lv149 uv149 => ?_)
      refine g_if2_ge (fun c150 => ?_) (fun c150 => ?_)
      · refine g_lload rfl ?_
        exact g_lret ⟨_, rfl, hIH145, hJH145, (e146.symm.trans ek1_1), m147⟩
      · refine g_aload_n rfl ?_
        refine g_gfr hIH145 sx_24 rfl ?_
        refine g_iload rfl ?_
        refine g_invvi hIH145 sx_25 rfl rfl rfl rfl (s_27 25 zCo_25 v144 (by omega) H145 hIH145 hJH145) (fun v153 H151 r152 => ?_)
        obtain rfl := r152
        refine g_iload_n rfl ?_
        refine g_if2_gt (fun c154 => ?_) (fun c154 => ?_)
        · refine g_lload rfl ?_
          exact g_lret ⟨_, rfl, hIH145, hJH145, (e146.symm.trans ek1_1), m147⟩
        · refine g_aload_n rfl ?_
          refine g_iload rfl ?_
          refine g_invvi hIH145 sx_24 rfl rfl rfl rfl (s_53 v144 (by omega) H145 hIH145 hJH145) (fun v157 H155 r156 => ?_)
          obtain ⟨hIH155, hJH155, w158, m159⟩ := r156
          have e160 : k1_1 = fZ H155 1 1 := e146.trans w158.symm
          have m161 : kpX H H155 := kpX_t m147 m159
          refine g_pop rfl ?_
          refine g_lload rfl ?_
          refine g_aload_n rfl ?_
          refine g_gfr hIH155 sx_24 rfl ?_
          refine g_iload_n rfl ?_
          refine g_invvl hIH155 sx_28 rfl rfl rfl rfl (s_104 28 zWo_28 a1 H155 hIH155 hJH155) (fun v164 H162 r163 => ?_)
          obtain rfl := r163
          refine g_lor (fun v165 _ => ?_)
          refine g_lstore (l' := [(0, .ref 24), (1, .int a1), (2, .int a2), (3, .int a3), (4, .int v135), (5, .long v165), (7, .int v144)]) rfl rfl ?_
          refine g_iinc (l' := (fun v166 => [(0, .ref 24), (1, .int a1), (2, .int a2), (3, .int a3), (4, .int v135), (5, .long v165), (7, .int v166)])) rfl rfl (by decide) (by omega) (fun _ => rfl) (fun v166 ev166 => ?_)
          refine g_goto ?_
          exact ihL148 v165 v166 H155 hIH155 hJH155 e160 m161 (by omega) (by omega)
  exact L148 _ v142 v135 H133 hIH133 hJH133 e138 m139 (by omega) (Nat.lt_succ_self _)
set_option maxRecDepth 4000 in
set_option maxHeartbeats 4000000 in
/-- X5.mostHeld -/
theorem s_66 (a1 : Int32) (ha1 : 0 ≤ a1.toInt ∧ a1.toInt ≤ 39) (H : mzH) (hI : gI SX H) (hJ : JX H) : gCall 66 [.ref 24, .int a1] H (gRi (fun v H' => gI SX H' ∧ JX H' ∧ fZ H' 1 1 = fZ H 1 1 ∧ kpX H H')) := by
  obtain ⟨k1_1, ek1_1⟩ : ∃ z, z = fZ H 1 1 := ⟨_, rfl⟩
  have ik1_1 : k1_1.toInt = (fZ H 1 1).toInt := by rw [← ek1_1]
  have bk1_1 : 0 ≤ k1_1.toInt ∧ k1_1.toInt ≤ 900 := by rw [ek1_1]; exact fZ_of hI sx_1 rfl
  have mkfr : kpX H H := kpX_r
  refine gG_call [(0, .ref 24), (1, .int a1)] ⟨rfl, rfl, trivial⟩ ?_
  show gG 4 zB_66 (mzBlk zB_66 0) [(0, .ref 24), (1, .int a1)] [] H 0 0 _
  refine g_aload_n rfl ?_
  refine g_gfr hI sx_24 rfl ?_
  refine g_invvv hI sx_28 rfl rfl rfl rfl (s_83 28 zWo_28 H hI hJ) (fun H369 r370 => ?_)
  obtain ⟨hIH369, hJH369, w371, m372⟩ := r370
  have e373 : k1_1 = fZ H369 1 1 := ek1_1.trans w371.symm
  have m374 : kpX H H369 := kpX_t mkfr m372
  refine g_iconst (by decide) (fun v375 kv375 => ?_)
  refine g_istore_n (l' := [(0, .ref 24), (1, .int a1), (2, .int v375)]) rfl rfl ?_
  refine g_iconst (by decide) (fun v376 kv376 => ?_)
  refine g_istore_n (l' := [(0, .ref 24), (1, .int a1), (2, .int v375), (3, .int v376)]) rfl rfl ?_
  refine g_nop ?_
  have L382 : ∀ (N : Nat) (v377 : Int32) (v378 : Int32) (H379 : mzH), gI SX H379 → JX H379 → k1_1 = fZ H379 1 1 → kpX H H379 → (0 ≤ v377.toInt ∧ v377.toInt ≤ 2147483647) → (0 ≤ v378.toInt ∧ v378.toInt ≤ 60) → (60 - v378.toInt).toNat < N → gG 4 zB_66 (mzBlk zB_66 1) [(0, .ref 24), (1, .int a1), (2, .int v377), (3, .int v378)] [] H379 0 0 (gRi (fun v H' => gI SX H' ∧ JX H' ∧ fZ H' 1 1 = fZ H 1 1 ∧ kpX H H')) := by
    intro N
    induction N with
    | zero => intro v377 v378 H379 hIH379 hJH379 e380 m381 bv377 bv378 hmL382; exact absurd hmL382 (Nat.not_lt_zero _)
    | succ N ihL382 =>
      intro v377 v378 H379 hIH379 hJH379 e380 m381 bv377 bv378 hmL382
      refine g_iload_n rfl ?_
      refine g_aload_n rfl ?_
      refine g_gfr hIH379 sx_24 rfl ?_
      refine g_gfi hIH379 sx_25 rfl (fun v383 ev383 lv383 uv383 => ?_)
      refine g_if2_ge (fun c384 => ?_) (fun c384 => ?_)
      · refine g_aload_n rfl ?_
        refine g_gfr hIH379 sx_24 rfl ?_
        refine g_iload_n rfl ?_
        refine g_invvi hIH379 sx_28 rfl rfl rfl rfl (s_88 28 zWo_28 a1 (by omega) H379 hIH379 hJH379) (fun v387 H385 r386 => ?_)
        obtain ⟨rfl, bv387⟩ := r386
        refine g_if_eq (fun c388 => ?_) (fun c388 => ?_)
        · refine g_bipush (by decide) (fun v389 kv389 => ?_)
          refine g_nop ?_
          exact g_iret ⟨_, rfl, hIH379, hJH379, (e380.symm.trans ek1_1), m381⟩
        · refine g_iload_n rfl ?_
          refine g_goto ?_
          exact g_iret ⟨_, rfl, hIH379, hJH379, (e380.symm.trans ek1_1), m381⟩
      · refine g_aload_n rfl ?_
        refine g_iload_n rfl ?_
        refine g_invvi hIH379 sx_24 rfl rfl rfl rfl (s_53 v378 (by omega) H379 hIH379 hJH379) (fun v392 H390 r391 => ?_)
        obtain ⟨hIH390, hJH390, w393, m394⟩ := r391
        have e395 : k1_1 = fZ H390 1 1 := e380.trans w393.symm
        have m396 : kpX H H390 := kpX_t m381 m394
        refine g_pop rfl ?_
        refine g_iload_n rfl ?_
        refine g_aload_n rfl ?_
        refine g_gfr hIH390 sx_24 rfl ?_
        refine g_iload_n rfl ?_
        refine g_invvl hIH390 sx_28 rfl rfl rfl rfl (s_104 28 zWo_28 a1 H390 hIH390 hJH390) (fun v399 H397 r398 => ?_)
        obtain rfl := r398
        refine g_invti rfl rfl rfl (s_253 v399 H390 hIH390 hJH390) (fun v402 H400 r401 => ?_)
        obtain rfl := r401
        refine g_max rfl (fun v403 av403 bv403 dv403 => ?_)
        refine g_istore_n (l' := [(0, .ref 24), (1, .int a1), (2, .int v403), (3, .int v378)]) rfl rfl ?_
        refine g_iinc (l' := (fun v404 => [(0, .ref 24), (1, .int a1), (2, .int v403), (3, .int v404)])) rfl rfl (by decide) (by omega) (fun _ => rfl) (fun v404 ev404 => ?_)
        refine g_goto ?_
        exact ihL382 v403 v404 H390 hIH390 hJH390 e395 m396 (by have := gz_any v403; omega) (by omega) (by omega)
  exact L382 _ v375 v376 H369 hIH369 hJH369 e373 m374 (by have := gz_any v375; omega) (by omega) (Nat.lt_succ_self _)
set_option maxRecDepth 4000 in
set_option maxHeartbeats 4000000 in
/-- X5.heldSince -/
theorem s_67 (a1 : Int32) (ha1 : 0 ≤ a1.toInt ∧ a1.toInt ≤ 39) (a2 : Int32) (H : mzH) (hI : gI SX H) (hJ : JX H) : gCall 67 [.ref 24, .int a1, .int a2] H (gRi (fun v H' => gI SX H' ∧ JX H' ∧ fZ H' 1 1 = fZ H 1 1 ∧ kpX H H')) := by
  obtain ⟨k1_1, ek1_1⟩ : ∃ z, z = fZ H 1 1 := ⟨_, rfl⟩
  have ik1_1 : k1_1.toInt = (fZ H 1 1).toInt := by rw [← ek1_1]
  have bk1_1 : 0 ≤ k1_1.toInt ∧ k1_1.toInt ≤ 900 := by rw [ek1_1]; exact fZ_of hI sx_1 rfl
  have mkfr : kpX H H := kpX_r
  refine gG_call [(0, .ref 24), (1, .int a1), (2, .int a2)] ⟨rfl, rfl, rfl, trivial⟩ ?_
  show gG 8 zB_67 (mzBlk zB_67 0) [(0, .ref 24), (1, .int a1), (2, .int a2)] [] H 0 0 _
  refine g_aload_n rfl ?_
  refine g_gfr hI sx_24 rfl ?_
  refine g_invvv hI sx_28 rfl rfl rfl rfl (s_83 28 zWo_28 H hI hJ) (fun H761 r762 => ?_)
  obtain ⟨hIH761, hJH761, w763, m764⟩ := r762
  have e765 : k1_1 = fZ H761 1 1 := ek1_1.trans w763.symm
  have m766 : kpX H H761 := kpX_t mkfr m764
  refine g_bipush (by decide) (fun v767 kv767 => ?_)
  refine g_istore_n (l' := [(0, .ref 24), (1, .int a1), (2, .int a2), (3, .int v767)]) rfl rfl ?_
  refine g_iconst (by decide) (fun v768 kv768 => ?_)
  refine g_istore (l' := [(0, .ref 24), (1, .int a1), (2, .int a2), (3, .int v767), (4, .int v768)]) rfl rfl ?_
  refine g_nop ?_
  have L774 : ∀ (N : Nat) (v769 : Int32) (v770 : Int32) (H771 : mzH), gI SX H771 → JX H771 → k1_1 = fZ H771 1 1 → kpX H H771 → (0 ≤ v770.toInt ∧ v770.toInt ≤ 60) → (60 - v770.toInt).toNat < N → gG 8 zB_67 (mzBlk zB_67 1) [(0, .ref 24), (1, .int a1), (2, .int a2), (3, .int v769), (4, .int v770)] [] H771 0 0 (gRi (fun v H' => gI SX H' ∧ JX H' ∧ fZ H' 1 1 = fZ H 1 1 ∧ kpX H H')) := by
    intro N
    induction N with
    | zero => intro v769 v770 H771 hIH771 hJH771 e772 m773 bv770 hmL774; exact absurd hmL774 (Nat.not_lt_zero _)
    | succ N ihL774 =>
      intro v769 v770 H771 hIH771 hJH771 e772 m773 bv770 hmL774
      refine g_iload rfl ?_
      refine g_aload_n rfl ?_
      refine g_gfr hIH771 sx_24 rfl ?_
      refine g_gfi hIH771 sx_25 rfl (fun v775 ev775 lv775 uv775 => ?_)
      refine g_if2_ge (fun c776 => ?_) (fun c776 => ?_)
      · refine g_aload_n rfl ?_
        refine g_gfr hIH771 sx_24 rfl ?_
        refine g_iload_n rfl ?_
        refine g_iconst (by decide) (fun v777 kv777 => ?_)
        refine g_invvi hIH771 sx_28 rfl rfl rfl rfl (s_85 28 zWo_28 a1 (by omega) v777 H771 hIH771 hJH771) (fun v780 H778 r779 => ?_)
        obtain ⟨rfl, bv780⟩ := r779
        refine g_if_eq (fun c781 => ?_) (fun c781 => ?_)
        · refine g_iload_n rfl ?_
          refine g_nop ?_
          exact g_iret ⟨_, rfl, hIH771, hJH771, (e772.symm.trans ek1_1), m773⟩
        · refine g_bipush (by decide) (fun v782 kv782 => ?_)
          refine g_goto ?_
          exact g_iret ⟨_, rfl, hIH771, hJH771, (e772.symm.trans ek1_1), m773⟩
      · refine g_aload_n rfl ?_
        refine g_gfr hIH771 sx_24 rfl ?_
        refine g_iload rfl ?_
        refine g_invvi hIH771 sx_25 rfl rfl rfl rfl (s_27 25 zCo_25 v770 (by omega) H771 hIH771 hJH771) (fun v785 H783 r784 => ?_)
        obtain rfl := r784
        refine g_iload_n rfl ?_
        refine g_if2_gt (fun c786 => ?_) (fun c786 => ?_)
        · refine g_aload_n rfl ?_
          refine g_gfr hIH771 sx_24 rfl ?_
          refine g_iload_n rfl ?_
          refine g_iconst (by decide) (fun v787 kv787 => ?_)
          refine g_invvi hIH771 sx_28 rfl rfl rfl rfl (s_85 28 zWo_28 a1 (by omega) v787 H771 hIH771 hJH771) (fun v790 H788 r789 => ?_)
          obtain ⟨rfl, bv790⟩ := r789
          refine g_if_eq (fun c791 => ?_) (fun c791 => ?_)
          · refine g_iload_n rfl ?_
            refine g_nop ?_
            exact g_iret ⟨_, rfl, hIH771, hJH771, (e772.symm.trans ek1_1), m773⟩
          · refine g_bipush (by decide) (fun v792 kv792 => ?_)
            refine g_goto ?_
            exact g_iret ⟨_, rfl, hIH771, hJH771, (e772.symm.trans ek1_1), m773⟩
        · refine g_aload_n rfl ?_
          refine g_gfr hIH771 sx_24 rfl ?_
          refine g_iload_n rfl ?_
          refine g_invvl hIH771 sx_28 rfl rfl rfl rfl (s_104 28 zWo_28 a1 H771 hIH771 hJH771) (fun v795 H793 r794 => ?_)
          obtain rfl := r794
          refine g_lstore (l' := [(0, .ref 24), (1, .int a1), (2, .int a2), (3, .int v769), (4, .int v770), (5, .long v795)]) rfl rfl ?_
          refine g_aload_n rfl ?_
          refine g_gfr hIH771 sx_24 rfl ?_
          refine g_iload_n rfl ?_
          refine g_invvi hIH771 sx_28 rfl rfl rfl rfl (s_88 28 zWo_28 a1 (by omega) H771 hIH771 hJH771) (fun v798 H796 r797 => ?_)
          obtain ⟨rfl, bv798⟩ := r797
          refine g_istore (l' := [(0, .ref 24), (1, .int a1), (2, .int a2), (3, .int v769), (4, .int v770), (5, .long v795), (7, .int v798)]) rfl rfl ?_
          refine g_aload_n rfl ?_
          refine g_iload rfl ?_
          refine g_invvi hIH771 sx_24 rfl rfl rfl rfl (s_53 v770 (by omega) H771 hIH771 hJH771) (fun v801 H799 r800 => ?_)
          obtain ⟨hIH799, hJH799, w802, m803⟩ := r800
          have e804 : k1_1 = fZ H799 1 1 := e772.trans w802.symm
          have m805 : kpX H H799 := kpX_t m773 m803
          refine g_pop rfl ?_
          refine g_aload_n rfl ?_
          refine g_gfr hIH799 sx_24 rfl ?_
          refine g_iload_n rfl ?_
          refine g_invvl hIH799 sx_28 rfl rfl rfl rfl (s_104 28 zWo_28 a1 H799 hIH799 hJH799) (fun v808 H806 r807 => ?_)
          obtain rfl := r807
          refine g_lload rfl ?_
          refine g_lcmp (fun v809 _ => ?_)
          refine g_if_ne (fun c810 => ?_) (fun c810 => ?_)
          · refine g_aload_n rfl ?_
            refine g_gfr hIH799 sx_24 rfl ?_
            refine g_iload rfl ?_
            refine g_invvi hIH799 sx_25 rfl rfl rfl rfl (s_27 25 zCo_25 v770 (by omega) H799 hIH799 hJH799) (fun v813 H811 r812 => ?_)
            obtain rfl := r812
            refine g_istore_n (l' := [(0, .ref 24), (1, .int a1), (2, .int a2), (3, .int v813), (4, .int v770), (5, .long v795), (7, .int v798)]) rfl rfl ?_
            refine g_nop ?_
            refine g_iinc (l' := (fun v814 => [(0, .ref 24), (1, .int a1), (2, .int a2), (3, .int v813), (4, .int v814), (5, .long v795), (7, .int v798)])) rfl rfl (by decide) (by omega) (fun _ => rfl) (fun v814 ev814 => ?_)
            refine g_goto ?_
            refine gG_pick [0, 1, 2, 3, 4] (l' := [(0, .ref 24), (1, .int a1), (2, .int a2), (3, .int v813), (4, .int v814)]) rfl ?_
            exact ihL774 v813 v814 H799 hIH799 hJH799 e804 m805 (by omega) (by omega)
          · refine g_aload_n rfl ?_
            refine g_gfr hIH799 sx_24 rfl ?_
            refine g_iload_n rfl ?_
            refine g_invvi hIH799 sx_28 rfl rfl rfl rfl (s_88 28 zWo_28 a1 (by omega) H799 hIH799 hJH799) (fun v817 H815 r816 => ?_)
            obtain ⟨rfl, bv817⟩ := r816
            refine g_iload rfl ?_
            refine g_if2_eq (fun c818 => ?_) (fun c818 => ?_)
            · refine g_iinc (l' := (fun v819 => [(0, .ref 24), (1, .int a1), (2, .int a2), (3, .int v769), (4, .int v819), (5, .long v795), (7, .int v798)])) rfl rfl (by decide) (by omega) (fun _ => rfl) (fun v819 ev819 => ?_)
              refine g_goto ?_
              refine gG_pick [0, 1, 2, 3, 4] (l' := [(0, .ref 24), (1, .int a1), (2, .int a2), (3, .int v769), (4, .int v819)]) rfl ?_
              exact ihL774 v769 v819 H799 hIH799 hJH799 e804 m805 (by omega) (by omega)
            · refine g_nop ?_
              refine g_aload_n rfl ?_
              refine g_gfr hIH799 sx_24 rfl ?_
              refine g_iload rfl ?_
              refine g_invvi hIH799 sx_25 rfl rfl rfl rfl (s_27 25 zCo_25 v770 (by omega) H799 hIH799 hJH799) (fun v822 H820 r821 => ?_)
              obtain rfl := r821
              refine g_istore_n (l' := [(0, .ref 24), (1, .int a1), (2, .int a2), (3, .int v822), (4, .int v770), (5, .long v795), (7, .int v798)]) rfl rfl ?_
              refine g_nop ?_
              refine g_iinc (l' := (fun v823 => [(0, .ref 24), (1, .int a1), (2, .int a2), (3, .int v822), (4, .int v823), (5, .long v795), (7, .int v798)])) rfl rfl (by decide) (by omega) (fun _ => rfl) (fun v823 ev823 => ?_)
              refine g_goto ?_
              refine gG_pick [0, 1, 2, 3, 4] (l' := [(0, .ref 24), (1, .int a1), (2, .int a2), (3, .int v822), (4, .int v823)]) rfl ?_
              exact ihL774 v822 v823 H799 hIH799 hJH799 e804 m805 (by omega) (by omega)
  exact L774 _ v767 v768 H761 hIH761 hJH761 e765 m766 (by omega) (Nat.lt_succ_self _)
