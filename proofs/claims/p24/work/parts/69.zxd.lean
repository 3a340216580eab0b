theorem mx_kp {H A : mzH} (fr : kpX H A) : mxF (fun k => (aZ A 6 k).toInt) (fZ A 3 9).toInt.toNat = mxF (fun k => (aZ H 6 k).toInt) (fZ H 3 9).toInt.toNat := by
  rw [(fr 3 (by decide)).1]
  exact mx_cg _ (fun k _ => by rw [(fr 6 (by decide)).2])
set_option maxRecDepth 4000 in
set_option maxHeartbeats 4000000 in
/-- X1.latestHour -/
theorem w_22  (H : mzH) (hI : gI SX H) (hJ : JX H) : gCall 22 [.ref 3] H (gRi (fun v H' => H = H' ∧ v.toInt = mxF (fun k => (aZ H 6 k).toInt) (fZ H 3 9).toInt.toNat)) := by
  obtain ⟨k3_9, ek3_9⟩ : ∃ z, z = fZ H 3 9 := ⟨_, rfl⟩
  have ik3_9 : k3_9.toInt = (fZ H 3 9).toInt := by rw [← ek3_9]
  have bk3_9 : 0 ≤ k3_9.toInt ∧ k3_9.toInt ≤ 60 := by rw [ek3_9]; exact fZ_of hI sx_3 rfl
  refine gG_call [(0, .ref 3)] ⟨rfl, trivial⟩ ?_
  show gG 3 zB_22 (mzBlk zB_22 0) [(0, .ref 3)] [] H 0 0 _
  refine g_iconst (by decide) (fun v107 kv107 => ?_)
  refine g_istore_n (l' := [(0, .ref 3), (1, .int v107)]) rfl rfl ?_
  refine g_iconst (by decide) (fun v108 kv108 => ?_)
  refine g_istore_n (l' := [(0, .ref 3), (1, .int v107), (2, .int v108)]) rfl rfl ?_
  refine g_nop ?_
  have L111 : ∀ (N : Nat) (v109 : Int32) (v110 : Int32), (0 ≤ v109.toInt ∧ v109.toInt ≤ 2147483647) → (0 ≤ v110.toInt ∧ v110.toInt ≤ 60) → v109.toInt = mxF (fun k => (aZ H 6 k).toInt) v110.toInt.toNat → v110.toInt ≤ (fZ H 3 9).toInt → (60 - v110.toInt).toNat < N → gG 3 zB_22 (mzBlk zB_22 1) [(0, .ref 3), (1, .int v109), (2, .int v110)] [] H 0 0 (gRi (fun v H' => H = H' ∧ v.toInt = mxF (fun k => (aZ H 6 k).toInt) (fZ H 3 9).toInt.toNat)) := by
    intro N
    induction N with
    | zero => intro v109 v110 bv109 bv110 q1 q2 hmL111; exact absurd hmL111 (Nat.not_lt_zero _)
    | succ N ihL111 =>
      intro v109 v110 bv109 bv110 q1 q2 hmL111
      refine g_iload_n rfl ?_
      refine g_aload_n rfl ?_
      refine g_gfk hI sx_3 rfl ek3_9 ?_
      refine g_if2_ge (fun c112 => ?_) (fun c112 => ?_)
      · refine g_iload_n rfl ?_
        exact g_iret ⟨_, rfl, rfl, (by rw [show (fZ H 3 9).toInt.toNat = v110.toInt.toNat by omega]; exact q1)⟩
      · refine g_iload_n rfl ?_
        refine g_aload_n rfl ?_
        refine g_gfr hI sx_3 rfl ?_
        refine g_iload_n rfl ?_
        refine g_iaload hI sx_6 rfl (by omega) (fun v113 ev113 lv113 uv113 => ?_)
        have yv113 : v113.toInt = (aZ H 6 v110.toInt.toNat).toInt := by rw [ev113]
        refine g_max rfl (fun v114 av114 bv114 dv114 => ?_)
        refine g_istore_n (l' := [(0, .ref 3), (1, .int v114), (2, .int v110)]) rfl rfl ?_
        refine g_iinc (l' := (fun v115 => [(0, .ref 3), (1, .int v114), (2, .int v115)])) rfl rfl (by decide) (by omega) (fun _ => rfl) (fun v115 ev115 => ?_)
        refine g_goto ?_
        exact ihL111 v114 v115 (by have := gz_any v114; omega) (by omega) (mx_s q1 (by omega) (by show (_ < (aZ H 6 v110.toInt.toNat).toInt ∧ _ = (aZ H 6 v110.toInt.toNat).toInt) ∨ ((aZ H 6 v110.toInt.toNat).toInt ≤ _ ∧ _ = _); omega)) (by omega) (by omega)
  exact L111 _ v107 v108 (by have := gz_any v107; omega) (by omega) (mx_0 (by omega) (by omega)) (by have := fZ_of hI sx_3 (f := 9) rfl; omega) (Nat.lt_succ_self _)
set_option maxRecDepth 4000 in
set_option maxHeartbeats 4000000 in
/-- X5.hoursAt -/
theorem w_60  (a1 : Int32) (ha1 : 0 ≤ a1.toInt ∧ a1.toInt ≤ 39) (a2 : Int32) (H : mzH) (hI : gI SX H) (hJ : JX H) (hp0 : gdX H) (hp1 : (∀ k : Nat, (k : Int) < (fZ H 3 9).toInt → 0 ≤ (aZ H 6 k).toInt ∧ (aZ H 6 k).toInt ≤ 999)) : gCall 60 [.ref 24, .int a1, .int a2] H (gRi (fun v H' => gI SX H' ∧ JX H' ∧ fZ H' 1 1 = fZ H 1 1 ∧ kpX H H' ∧ v.toInt = dwE (fun p => whr (fX H (p + 1)) a1.toInt.toNat) (hrX H) a2.toInt (mxF (fun k => (aZ H 6 k).toInt) (fZ H 3 9).toInt.toNat) (fZ H 25 2).toInt.toNat)) := by
  obtain ⟨k1_1, ek1_1⟩ : ∃ z, z = fZ H 1 1 := ⟨_, rfl⟩
  have ik1_1 : k1_1.toInt = (fZ H 1 1).toInt := by rw [← ek1_1]
  have bk1_1 : 0 ≤ k1_1.toInt ∧ k1_1.toInt ≤ 900 := by rw [ek1_1]; exact fZ_of hI sx_1 rfl
  have mkfr : kpX H H := kpX_r
  refine gG_call [(0, .ref 24), (1, .int a1), (2, .int a2)] ⟨rfl, rfl, rfl, trivial⟩ ?_
  show gG 7 zB_60 (mzBlk zB_60 0) [(0, .ref 24), (1, .int a1), (2, .int a2)] [] H 0 0 _
  refine g_aload_n rfl ?_
  refine g_gfr hI sx_24 rfl ?_
  refine g_invvv hI sx_28 rfl rfl rfl rfl (w_83 28 zWo_28 H hI hJ) (fun H829 r830 => ?_)
  obtain ⟨hIH829, hJH829, w831, m832, p833⟩ := r830
  have e834 : k1_1 = fZ H829 1 1 := ek1_1.trans w831.symm
  have m835 : kpX H H829 := kpX_t mkfr (kpX_W (by decide) m832)
  refine g_bipush (by decide) (fun v836 kv836 => ?_)
  refine g_istore_n (l' := [(0, .ref 24), (1, .int a1), (2, .int a2), (3, .int v836)]) rfl rfl ?_
  refine g_iconst (by decide) (fun v837 kv837 => ?_)
  refine g_istore (l' := [(0, .ref 24), (1, .int a1), (2, .int a2), (3, .int v836), (4, .int v837)]) rfl rfl ?_
  refine g_iconst (by decide) (fun v838 kv838 => ?_)
  refine g_istore (l' := [(0, .ref 24), (1, .int a1), (2, .int a2), (3, .int v836), (4, .int v837), (5, .int v838)]) rfl rfl ?_
  refine g_iconst (by decide) (fun v839 kv839 => ?_)
  refine g_istore (l' := [(0, .ref 24), (1, .int a1), (2, .int a2), (3, .int v836), (4, .int v837), (5, .int v838), (6, .int v839)]) rfl rfl ?_
  refine g_nop ?_
  have L847 : ∀ (N : Nat) (v840 : Int32) (v841 : Int32) (v842 : Int32) (v843 : Int32) (H844 : mzH), gI SX H844 → JX H844 → k1_1 = fZ H844 1 1 → kpX H H844 → (0 ≤ v841.toInt ∧ v841.toInt ≤ 999) → (-59940 ≤ v842.toInt ∧ v842.toInt ≤ 59940) → (0 ≤ v843.toInt ∧ v843.toInt ≤ 60) → v843.toInt ≤ (fZ H 25 2).toInt → wdX H844 28 (fX H v843.toInt.toNat) → v840.toInt = (trS (fun p => whr (fX H (p + 1)) a1.toInt.toNat) (hrX H) v843.toInt.toNat).2.2.2 → v842.toInt = (dwS (fun p => whr (fX H (p + 1)) a1.toInt.toNat) (hrX H) a2.toInt v843.toInt.toNat).1 → v841.toInt = (dwS (fun p => whr (fX H (p + 1)) a1.toInt.toNat) (hrX H) a2.toInt v843.toInt.toNat).2 → (0 ≤ v841.toInt ∧ v841.toInt ≤ 999) → (-(999 * v843.toInt) ≤ v842.toInt ∧ v842.toInt ≤ 999 * v843.toInt) → (60 - v843.toInt).toNat < N → gG 7 zB_60 (mzBlk zB_60 1) [(0, .ref 24), (1, .int a1), (2, .int a2), (3, .int v840), (4, .int v841), (5, .int v842), (6, .int v843)] [] H844 0 0 (gRi (fun v H' => gI SX H' ∧ JX H' ∧ fZ H' 1 1 = fZ H 1 1 ∧ kpX H H' ∧ v.toInt = dwE (fun p => whr (fX H (p + 1)) a1.toInt.toNat) (hrX H) a2.toInt (mxF (fun k => (aZ H 6 k).toInt) (fZ H 3 9).toInt.toNat) (fZ H 25 2).toInt.toNat)) := by
    intro N
    induction N with
    | zero => intro v840 v841 v842 v843 H844 hIH844 hJH844 e845 m846 bv841 bv842 bv843 q0 q1 q2 q3 q4 q5 q6 hmL847; exact absurd hmL847 (Nat.not_lt_zero _)
    | succ N ihL847 =>
      intro v840 v841 v842 v843 H844 hIH844 hJH844 e845 m846 bv841 bv842 bv843 q0 q1 q2 q3 q4 q5 q6 hmL847
      refine g_iload rfl ?_
      refine g_aload_n rfl ?_
      refine g_gfr hIH844 sx_24 rfl ?_
      refine g_gfi hIH844 sx_25 rfl (fun v848 ev848 lv848 uv848 => ?_)
      have zv848 : v848.toInt = (fZ H 25 2).toInt := by rw [ev848, (m846 25 (by decide)).1]
      refine g_if2_ge (fun c849 => ?_) (fun c849 => ?_)
      · refine g_iload_n rfl ?_
        refine g_iload_n rfl ?_
        refine g_if2_ne (fun c850 => ?_) (fun c850 => ?_)
        · refine g_iload rfl ?_
          refine g_nop ?_
          exact g_iret ⟨_, rfl, hIH844, hJH844, (e845.symm.trans ek1_1), m846, (by rw [show (fZ H 25 2).toInt.toNat = v843.toInt.toNat by omega]; unfold dwE; first | (rw [if_pos (by omega)]; omega) | (rw [if_neg (by omega)]; omega))⟩
        · refine g_iload rfl ?_
          refine g_aload_n rfl ?_
          refine g_gfr hIH844 sx_24 rfl ?_
          refine g_invvi hIH844 sx_3 rfl rfl rfl rfl (w_22 H844 hIH844 hJH844) (fun v853 H851 r852 => ?_)
          obtain ⟨rfl, p854⟩ := r852
          have ltv853 : v853.toInt = mxF (fun k => (aZ H 6 k).toInt) (fZ H 3 9).toInt.toNat := by rw [p854, mx_kp m846]
          have lbv853 := mx_b (f := fun k => (aZ H 6 k).toInt) (fZ H 3 9).toInt.toNat (fun k hk => hp1 k (by omega))
          refine g_iadd' (fun v855 ov855 => ?_)
          have sv855 : v855.toInt = v842.toInt + v853.toInt := gz_add_of ov855 (by omega)
          refine g_iload rfl ?_
          refine g_isub' (fun v856 ov856 => ?_)
          have sv856 : v856.toInt = v855.toInt - v841.toInt := gz_sub_of ov856 (by omega)
          refine g_goto ?_
          exact g_iret ⟨_, rfl, hIH844, hJH844, (e845.symm.trans ek1_1), m846, (by rw [show (fZ H 25 2).toInt.toNat = v843.toInt.toNat by omega]; unfold dwE; first | (rw [if_pos (by omega)]; omega) | (rw [if_neg (by omega)]; omega))⟩
      · refine g_aload_n rfl ?_
        refine g_iload rfl ?_
        refine g_invvi hIH844 sx_24 rfl rfl rfl rfl (w_53 v843 (by omega) H844 hIH844 hJH844 q1 (hp0.2 v843.toInt.toNat (by omega)).1 (hp0.2 v843.toInt.toNat (by omega)).2 (by rw [(m846 26 (by decide)).2, (m846 27 (by decide)).2]; exact (hp0.1 v843.toInt.toNat (by omega)).1) (by rw [(m846 7 (by decide)).2, (m846 27 (by decide)).2]; exact (hp0.1 v843.toInt.toNat (by omega)).2)) (fun v859 H857 r858 => ?_)
        obtain ⟨hIH857, hJH857, w860, m861, p862, p863⟩ := r858
        have e864 : k1_1 = fZ H857 1 1 := e845.trans w860.symm
        have m865 : kpX H H857 := kpX_t m846 m861
        have wzv843 : wdX H857 28 (fX H (v843.toInt.toNat + 1)) := gx_s2 m846 p862 rfl
        have vdv843 := gv_s2 (p := v843.toInt.toNat) m846 p863
        refine g_pop rfl ?_
        refine g_aload_n rfl ?_
        refine g_gfr hIH857 sx_24 rfl ?_
        refine g_iload_n rfl ?_
        refine g_invvi hIH857 sx_28 rfl rfl rfl rfl (w_91 28 zWo_28 a1 (by omega) H857 hIH857 hJH857 wzv843) (fun v868 H866 r867 => ?_)
        obtain ⟨rfl, p869⟩ := r867
        refine g_iload_n rfl ?_
        refine g_if2_eq (fun c870 => ?_) (fun c870 => ?_)
        · refine g_iinc (l' := (fun v871 => [(0, .ref 24), (1, .int a1), (2, .int a2), (3, .int v840), (4, .int v841), (5, .int v842), (6, .int v871)])) rfl rfl (by decide) (by omega) (fun _ => rfl) (fun v871 ev871 => ?_)
          refine g_goto ?_
          exact ihL847 v840 v841 v842 v871 H857 hIH857 hJH857 e864 m865 (by omega) (by omega) (by omega) (by omega) (by rw [show v871.toInt.toNat = v843.toInt.toNat + 1 by omega]; exact wzv843) (trw_s q2 (by omega) (by show whr _ _ = _; omega) rfl) (dwa_s q2 q3 (by omega) (by show whr _ _ = _; omega) rfl) (dwb_s q2 q4 (by omega) (by show whr _ _ = _; omega) rfl) (by omega) (by omega) (by omega)
        · refine g_iload rfl ?_
          refine g_iload_n rfl ?_
          refine g_iload_n rfl ?_
          refine g_if2_ne (fun c872 => ?_) (fun c872 => ?_)
          · refine g_iconst (by decide) (fun v873 kv873 => ?_)
            refine g_nop ?_
            refine g_iadd (by omega) (fun v874 ev874 => ?_)
            refine g_istore (l' := [(0, .ref 24), (1, .int a1), (2, .int a2), (3, .int v840), (4, .int v841), (5, .int v874), (6, .int v843)]) rfl rfl ?_
            refine g_aload_n rfl ?_
            refine g_gfr hIH857 sx_24 rfl ?_
            refine g_iload_n rfl ?_
            refine g_invvi hIH857 sx_28 rfl rfl rfl rfl (w_91 28 zWo_28 a1 (by omega) H857 hIH857 hJH857 wzv843) (fun v877 H875 r876 => ?_)
            obtain ⟨rfl, p878⟩ := r876
            refine g_istore_n (l' := [(0, .ref 24), (1, .int a1), (2, .int a2), (3, .int v877), (4, .int v841), (5, .int v874), (6, .int v843)]) rfl rfl ?_
            refine g_aload_n rfl ?_
            refine g_gfr hIH857 sx_24 rfl ?_
            refine g_iload rfl ?_
            refine g_invvi hIH857 sx_25 rfl rfl rfl rfl (w_27 25 zCo_25 v843 (by omega) H857 hIH857 hJH857) (fun v881 H879 r880 => ?_)
            obtain ⟨rfl, p882⟩ := r880
            have hzv881 : v881.toInt = hrX H v843.toInt.toNat := ha_kp m865 p882
            have hyv881 : 0 ≤ v881.toInt ∧ v881.toInt ≤ 999 := by rw [hzv881]; exact (hp0.1 v843.toInt.toNat (by omega)).1
            refine g_istore (l' := [(0, .ref 24), (1, .int a1), (2, .int a2), (3, .int v877), (4, .int v881), (5, .int v874), (6, .int v843)]) rfl rfl ?_
            refine g_nop ?_
            refine g_iinc (l' := (fun v883 => [(0, .ref 24), (1, .int a1), (2, .int a2), (3, .int v877), (4, .int v881), (5, .int v874), (6, .int v883)])) rfl rfl (by decide) (by omega) (fun _ => rfl) (fun v883 ev883 => ?_)
            refine g_goto ?_
            exact ihL847 v877 v881 v874 v883 H857 hIH857 hJH857 e864 m865 (by omega) (by omega) (by omega) (by omega) (by rw [show v883.toInt.toNat = v843.toInt.toNat + 1 by omega]; exact wzv843) (trw_n q2 (by omega) (by show whr _ _ ≠ _; omega) (by show _ = whr _ _; omega)) (dwa_n q2 q3 q4 (by omega) (by show whr _ _ ≠ _; omega) (by first | (rw [if_pos (by omega)]; omega) | (rw [if_neg (by omega)]; omega))) (dwb_n q2 (by omega) (by show whr _ _ ≠ _; omega) (by omega)) (by omega) (by omega) (by omega)
          · refine g_aload_n rfl ?_
            refine g_gfr hIH857 sx_24 rfl ?_
            refine g_iload rfl ?_
            refine g_invvi hIH857 sx_25 rfl rfl rfl rfl (w_27 25 zCo_25 v843 (by omega) H857 hIH857 hJH857) (fun v886 H884 r885 => ?_)
            obtain ⟨rfl, p887⟩ := r885
            have hzv886 : v886.toInt = hrX H v843.toInt.toNat := ha_kp m865 p887
            have hyv886 : 0 ≤ v886.toInt ∧ v886.toInt ≤ 999 := by rw [hzv886]; exact (hp0.1 v843.toInt.toNat (by omega)).1
            refine g_iload rfl ?_
            refine g_isub' (fun v888 ov888 => ?_)
            have sv888 : v888.toInt = v886.toInt - v841.toInt := gz_sub_of ov888 (by omega)
            refine g_goto ?_
            refine g_iadd' (fun v889 ov889 => ?_)
            have sv889 : v889.toInt = v842.toInt + v888.toInt := gz_add_of ov889 (by omega)
            refine g_istore (l' := [(0, .ref 24), (1, .int a1), (2, .int a2), (3, .int v840), (4, .int v841), (5, .int v889), (6, .int v843)]) rfl rfl ?_
            refine g_aload_n rfl ?_
            refine g_gfr hIH857 sx_24 rfl ?_
            refine g_iload_n rfl ?_
            refine g_invvi hIH857 sx_28 rfl rfl rfl rfl (w_91 28 zWo_28 a1 (by omega) H857 hIH857 hJH857 wzv843) (fun v892 H890 r891 => ?_)
            obtain ⟨rfl, p893⟩ := r891
            refine g_istore_n (l' := [(0, .ref 24), (1, .int a1), (2, .int a2), (3, .int v892), (4, .int v841), (5, .int v889), (6, .int v843)]) rfl rfl ?_
            refine g_aload_n rfl ?_
            refine g_gfr hIH857 sx_24 rfl ?_
            refine g_iload rfl ?_
            refine g_invvi hIH857 sx_25 rfl rfl rfl rfl (w_27 25 zCo_25 v843 (by omega) H857 hIH857 hJH857) (fun v896 H894 r895 => ?_)
            obtain ⟨rfl, p897⟩ := r895
            have hzv896 : v896.toInt = hrX H v843.toInt.toNat := ha_kp m865 p897
            have hyv896 : 0 ≤ v896.toInt ∧ v896.toInt ≤ 999 := by rw [hzv896]; exact (hp0.1 v843.toInt.toNat (by omega)).1
            refine g_istore (l' := [(0, .ref 24), (1, .int a1), (2, .int a2), (3, .int v892), (4, .int v896), (5, .int v889), (6, .int v843)]) rfl rfl ?_
            refine g_nop ?_
            refine g_iinc (l' := (fun v898 => [(0, .ref 24), (1, .int a1), (2, .int a2), (3, .int v892), (4, .int v896), (5, .int v889), (6, .int v898)])) rfl rfl (by decide) (by omega) (fun _ => rfl) (fun v898 ev898 => ?_)
            refine g_goto ?_
            exact ihL847 v892 v896 v889 v898 H857 hIH857 hJH857 e864 m865 (by omega) (by omega) (by omega) (by omega) (by rw [show v898.toInt.toNat = v843.toInt.toNat + 1 by omega]; exact wzv843) (trw_n q2 (by omega) (by show whr _ _ ≠ _; omega) (by show _ = whr _ _; omega)) (dwa_n q2 q3 q4 (by omega) (by show whr _ _ ≠ _; omega) (by first | (rw [if_pos (by omega)]; omega) | (rw [if_neg (by omega)]; omega))) (dwb_n q2 (by omega) (by show whr _ _ ≠ _; omega) (by omega)) (by omega) (by omega) (by omega)
  exact L847 _ v836 v837 v838 v839 H829 hIH829 hJH829 e834 m835 (by omega) (by omega) (by omega) (by have := fZ_of hI sx_25 (f := 2) rfl; omega) (by rw [kv839]; exact p833) (tr0_w (by omega) (by omega)) (dwa_0 (by omega) (by omega)) (dwb_0 (by omega) (by omega)) (by omega) (by omega) (Nat.lt_succ_self _)
set_option maxRecDepth 4000 in
set_option maxHeartbeats 4000000 in
/-- X9.dwelt -/
theorem w_136  (a1 : Int32) (a2 : Int32) (H : mzH) (hI : gI SX H) (hJ : JX H) (hp0 : gdX H) (hp1 : (∀ k : Nat, (k : Int) < (fZ H 3 9).toInt → 0 ≤ (aZ H 6 k).toInt ∧ (aZ H 6 k).toInt ≤ 999)) : gCall 136 [.ref 0, .int a1, .int a2] H (gRi (fun v H' => gI SX H' ∧ JX H' ∧ fZ H' 1 1 = fZ H 1 1 ∧ kpX H H' ∧ ((v.toInt = -1 ∧ ¬ ((0 ≤ a1.toInt ∧ a1.toInt ≤ 39) ∧ (a2.toInt = -3 ∨ (0 ≤ a2.toInt ∧ a2.toInt < (fZ H 3 7).toInt)))) ∨ (((0 ≤ a1.toInt ∧ a1.toInt ≤ 39) ∧ (a2.toInt = -3 ∨ (0 ≤ a2.toInt ∧ a2.toInt < (fZ H 3 7).toInt))) ∧ v.toInt = dwE (fun p => whr (fX H (p + 1)) a1.toInt.toNat) (hrX H) a2.toInt (mxF (fun k => (aZ H 6 k).toInt) (fZ H 3 9).toInt.toNat) (fZ H 25 2).toInt.toNat)))) := by
  obtain ⟨k1_1, ek1_1⟩ : ∃ z, z = fZ H 1 1 := ⟨_, rfl⟩
  have ik1_1 : k1_1.toInt = (fZ H 1 1).toInt := by rw [← ek1_1]
  have bk1_1 : 0 ≤ k1_1.toInt ∧ k1_1.toInt ≤ 900 := by rw [ek1_1]; exact fZ_of hI sx_1 rfl
  have mkfr : kpX H H := kpX_r
  refine gG_call [(0, .ref 0), (1, .int a1), (2, .int a2)] ⟨rfl, rfl, rfl, trivial⟩ ?_
  show gG 3 zB_136 (mzBlk zB_136 0) [(0, .ref 0), (1, .int a1), (2, .int a2)] [] H 0 0 _
  refine g_iload_n rfl ?_
  refine g_invti rfl rfl rfl (w_149 a1 H hI hJ) (fun v83 H81 r82 => ?_)
  obtain ⟨rfl, bv83, p84⟩ := r82
  refine g_if_eq (fun c85 => ?_) (fun c85 => ?_)
  · refine g_iconst (by decide) (fun v86 kv86 => ?_)
    exact g_iret ⟨_, rfl, hI, hJ, (ek1_1.symm.trans ek1_1), mkfr, (Or.inl ⟨by omega, by omega⟩)⟩
  · refine g_aload_n rfl ?_
    refine g_iload_n rfl ?_
    refine g_invvi hI sx_0 rfl rfl rfl rfl (w_151 a2 H hI hJ) (fun v89 H87 r88 => ?_)
    obtain ⟨rfl, bv89, p90⟩ := r88
    refine g_if_ne (fun c91 => ?_) (fun c91 => ?_)
    · refine g_aload_n rfl ?_
      refine g_gfr hI sx_0 rfl ?_
      refine g_iload_n rfl ?_
      refine g_iload_n rfl ?_
      refine g_invvi hI sx_24 rfl rfl rfl rfl (w_60 a1 (by omega) a2 H hI hJ hp0 hp1) (fun v94 H92 r93 => ?_)
      obtain ⟨hIH92, hJH92, w95, m96, p97⟩ := r93
      have e98 : k1_1 = fZ H92 1 1 := ek1_1.trans w95.symm
      have m99 : kpX H H92 := kpX_t mkfr m96
      exact g_iret ⟨_, rfl, hIH92, hJH92, (e98.symm.trans ek1_1), m99, (Or.inr ⟨by omega, p97⟩)⟩
    · refine g_nop ?_
      refine g_iconst (by decide) (fun v100 kv100 => ?_)
      exact g_iret ⟨_, rfl, hI, hJ, (ek1_1.symm.trans ek1_1), mkfr, (Or.inl ⟨by omega, by omega⟩)⟩
