set_option maxRecDepth 4000 in
set_option maxHeartbeats 4000000 in
/-- X5.heldSince -/
theorem w_67  (a1 : Int32) (ha1 : 0 ≤ a1.toInt ∧ a1.toInt ≤ 39) (a2 : Int32) (H : mzH) (hI : gI SX H) (hJ : JX H) (hp0 : gdX H) : gCall 67 [.ref 24, .int a1, .int a2] H (gRi (fun v H' => gI SX H' ∧ JX H' ∧ fZ H' 1 1 = fZ H 1 1 ∧ kpX H H' ∧ (∃ p : Nat, stX H a2.toInt p ∧ (((fX H p).en a1.toInt.toNat = 1 ∧ v.toInt = -4) ∨ (¬ (fX H p).en a1.toInt.toNat = 1 ∧ stR (fun q => (¬ (∀ x, x < 40 → (inn (fX H (q + 1)) x a1.toInt = 1 ↔ inn (fX H q) x a1.toInt = 1)) ∨ ¬ ((fX H (q + 1)).kd a1.toInt.toNat = -1 ↔ (fX H q).kd a1.toInt.toNat = -1))) (hrX H) p v.toInt))))) := by
  obtain ⟨k1_1, ek1_1⟩ : ∃ z, z = fZ H 1 1 := ⟨_, rfl⟩
  have ik1_1 : k1_1.toInt = (fZ H 1 1).toInt := by rw [← ek1_1]
  have bk1_1 : 0 ≤ k1_1.toInt ∧ k1_1.toInt ≤ 900 := by rw [ek1_1]; exact fZ_of hI sx_1 rfl
  have mkfr : kpX H H := kpX_r
  refine gG_call [(0, .ref 24), (1, .int a1), (2, .int a2)] ⟨rfl, rfl, rfl, trivial⟩ ?_
  show gG 8 zB_67 (mzBlk zB_67 0) [(0, .ref 24), (1, .int a1), (2, .int a2)] [] H 0 0 _
  refine g_aload_n rfl ?_
  refine g_gfr hI sx_24 rfl ?_
  refine g_invvv hI sx_28 rfl rfl rfl rfl (w_83 28 zWo_28 H hI hJ) (fun H919 r920 => ?_)
  obtain ⟨hIH919, hJH919, w921, m922, p923⟩ := r920
  have e924 : k1_1 = fZ H919 1 1 := ek1_1.trans w921.symm
  have m925 : kpX H H919 := kpX_t mkfr (kpX_W (by decide) m922)
  refine g_bipush (by decide) (fun v926 kv926 => ?_)
  refine g_istore_n (l' := [(0, .ref 24), (1, .int a1), (2, .int a2), (3, .int v926)]) rfl rfl ?_
  refine g_iconst (by decide) (fun v927 kv927 => ?_)
  refine g_istore (l' := [(0, .ref 24), (1, .int a1), (2, .int a2), (3, .int v926), (4, .int v927)]) rfl rfl ?_
  refine g_nop ?_
  have L933 : ∀ (N : Nat) (v928 : Int32) (v929 : Int32) (H930 : mzH), gI SX H930 → JX H930 → k1_1 = fZ H930 1 1 → kpX H H930 → (0 ≤ v929.toInt ∧ v929.toInt ≤ 60) → v929.toInt ≤ (fZ H 25 2).toInt → wdX H930 28 (fX H v929.toInt.toNat) → stR (fun q => (¬ (∀ x, x < 40 → (inn (fX H (q + 1)) x a1.toInt = 1 ↔ inn (fX H q) x a1.toInt = 1)) ∨ ¬ ((fX H (q + 1)).kd a1.toInt.toNat = -1 ↔ (fX H q).kd a1.toInt.toNat = -1))) (hrX H) v929.toInt.toNat v928.toInt → (∀ q : Nat, q < v929.toInt.toNat → hrX H q ≤ a2.toInt) → (60 - v929.toInt).toNat < N → gG 8 zB_67 (mzBlk zB_67 1) [(0, .ref 24), (1, .int a1), (2, .int a2), (3, .int v928), (4, .int v929)] [] H930 0 0 (gRi (fun v H' => gI SX H' ∧ JX H' ∧ fZ H' 1 1 = fZ H 1 1 ∧ kpX H H' ∧ (∃ p : Nat, stX H a2.toInt p ∧ (((fX H p).en a1.toInt.toNat = 1 ∧ v.toInt = -4) ∨ (¬ (fX H p).en a1.toInt.toNat = 1 ∧ stR (fun q => (¬ (∀ x, x < 40 → (inn (fX H (q + 1)) x a1.toInt = 1 ↔ inn (fX H q) x a1.toInt = 1)) ∨ ¬ ((fX H (q + 1)).kd a1.toInt.toNat = -1 ↔ (fX H q).kd a1.toInt.toNat = -1))) (hrX H) p v.toInt))))) := by
    intro N
    induction N with
    | zero => intro v928 v929 H930 hIH930 hJH930 e931 m932 bv929 q0 q1 q2 q4 hmL933; exact absurd hmL933 (Nat.not_lt_zero _)
    | succ N ihL933 =>
      intro v928 v929 H930 hIH930 hJH930 e931 m932 bv929 q0 q1 q2 q4 hmL933
      refine g_iload rfl ?_
      refine g_aload_n rfl ?_
      refine g_gfr hIH930 sx_24 rfl ?_
      refine g_gfi hIH930 sx_25 rfl (fun v934 ev934 lv934 uv934 => ?_)
      have zv934 : v934.toInt = (fZ H 25 2).toInt := by rw [ev934, (m932 25 (by decide)).1]
      refine g_if2_ge (fun c935 => ?_) (fun c935 => ?_)
      · refine g_aload_n rfl ?_
        refine g_gfr hIH930 sx_24 rfl ?_
        refine g_iload_n rfl ?_
        refine g_iconst (by decide) (fun v936 kv936 => ?_)
        refine g_invvi hIH930 sx_28 rfl rfl rfl rfl (w_85 28 zWo_28 a1 (by omega) v936 H930 hIH930 hJH930 q1 (by omega)) (fun v939 H937 r938 => ?_)
        obtain ⟨rfl, bv939, p940⟩ := r938
        rw [kv936, mkb_4] at p940
        refine g_if_eq (fun c941 => ?_) (fun c941 => ?_)
        · refine g_iload_n rfl ?_
          refine g_nop ?_
          exact g_iret ⟨_, rfl, hIH930, hJH930, (e931.symm.trans ek1_1), m932, ⟨v929.toInt.toNat, ⟨by omega, q4, by first | exact Or.inl (by omega) | exact Or.inr (by omega)⟩, Or.inr ⟨by omega, q2⟩⟩⟩
        · refine g_bipush (by decide) (fun v942 kv942 => ?_)
          refine g_goto ?_
          exact g_iret ⟨_, rfl, hIH930, hJH930, (e931.symm.trans ek1_1), m932, ⟨v929.toInt.toNat, ⟨by omega, q4, by first | exact Or.inl (by omega) | exact Or.inr (by omega)⟩, Or.inl ⟨by omega, by omega⟩⟩⟩
      · refine g_aload_n rfl ?_
        refine g_gfr hIH930 sx_24 rfl ?_
        refine g_iload rfl ?_
        refine g_invvi hIH930 sx_25 rfl rfl rfl rfl (w_27 25 zCo_25 v929 (by omega) H930 hIH930 hJH930) (fun v945 H943 r944 => ?_)
        obtain ⟨rfl, p946⟩ := r944
        have hzv945 : v945.toInt = hrX H v929.toInt.toNat := ha_kp m932 p946
        have hyv945 : 0 ≤ v945.toInt ∧ v945.toInt ≤ 999 := by rw [hzv945]; exact (hp0.1 v929.toInt.toNat (by omega)).1
        refine g_iload_n rfl ?_
        refine g_if2_gt (fun c947 => ?_) (fun c947 => ?_)
        · refine g_aload_n rfl ?_
          refine g_gfr hIH930 sx_24 rfl ?_
          refine g_iload_n rfl ?_
          refine g_iconst (by decide) (fun v948 kv948 => ?_)
          refine g_invvi hIH930 sx_28 rfl rfl rfl rfl (w_85 28 zWo_28 a1 (by omega) v948 H930 hIH930 hJH930 q1 (by omega)) (fun v951 H949 r950 => ?_)
          obtain ⟨rfl, bv951, p952⟩ := r950
          rw [kv948, mkb_4] at p952
          refine g_if_eq (fun c953 => ?_) (fun c953 => ?_)
          · refine g_iload_n rfl ?_
            refine g_nop ?_
            exact g_iret ⟨_, rfl, hIH930, hJH930, (e931.symm.trans ek1_1), m932, ⟨v929.toInt.toNat, ⟨by omega, q4, by first | exact Or.inl (by omega) | exact Or.inr (by omega)⟩, Or.inr ⟨by omega, q2⟩⟩⟩
          · refine g_bipush (by decide) (fun v954 kv954 => ?_)
            refine g_goto ?_
            exact g_iret ⟨_, rfl, hIH930, hJH930, (e931.symm.trans ek1_1), m932, ⟨v929.toInt.toNat, ⟨by omega, q4, by first | exact Or.inl (by omega) | exact Or.inr (by omega)⟩, Or.inl ⟨by omega, by omega⟩⟩⟩
        · refine g_aload_n rfl ?_
          refine g_gfr hIH930 sx_24 rfl ?_
          refine g_iload_n rfl ?_
          refine g_invvl hIH930 sx_28 rfl rfl rfl rfl (w_104 28 zWo_28 a1 H930 hIH930 hJH930 q1) (fun v957 H955 r956 => ?_)
          obtain ⟨rfl, p958⟩ := r956
          refine g_lstore (l' := [(0, .ref 24), (1, .int a1), (2, .int a2), (3, .int v928), (4, .int v929), (5, .long v957)]) rfl rfl ?_
          refine g_aload_n rfl ?_
          refine g_gfr hIH930 sx_24 rfl ?_
          refine g_iload_n rfl ?_
          refine g_invvi hIH930 sx_28 rfl rfl rfl rfl (w_88 28 zWo_28 a1 (by omega) H930 hIH930 hJH930 q1) (fun v961 H959 r960 => ?_)
          obtain ⟨rfl, bv961, p962⟩ := r960
          refine g_istore (l' := [(0, .ref 24), (1, .int a1), (2, .int a2), (3, .int v928), (4, .int v929), (5, .long v957), (7, .int v961)]) rfl rfl ?_
          refine g_aload_n rfl ?_
          refine g_iload rfl ?_
          refine g_invvi hIH930 sx_24 rfl rfl rfl rfl (w_53 v929 (by omega) H930 hIH930 hJH930 q1 (hp0.2 v929.toInt.toNat (by omega)).1 (hp0.2 v929.toInt.toNat (by omega)).2 (by rw [(m932 26 (by decide)).2, (m932 27 (by decide)).2]; exact (hp0.1 v929.toInt.toNat (by omega)).1) (by rw [(m932 7 (by decide)).2, (m932 27 (by decide)).2]; exact (hp0.1 v929.toInt.toNat (by omega)).2)) (fun v965 H963 r964 => ?_)
          obtain ⟨hIH963, hJH963, w966, m967, p968, p969⟩ := r964
          have e970 : k1_1 = fZ H963 1 1 := e931.trans w966.symm
          have m971 : kpX H H963 := kpX_t m932 m967
          have wzv929 : wdX H963 28 (fX H (v929.toInt.toNat + 1)) := gx_s2 m932 p968 rfl
          have vdv929 := gv_s2 (p := v929.toInt.toNat) m932 p969
          refine g_pop rfl ?_
          refine g_aload_n rfl ?_
          refine g_gfr hIH963 sx_24 rfl ?_
          refine g_iload_n rfl ?_
          refine g_invvl hIH963 sx_28 rfl rfl rfl rfl (w_104 28 zWo_28 a1 H963 hIH963 hJH963 wzv929) (fun v974 H972 r973 => ?_)
          obtain ⟨rfl, p975⟩ := r973
          refine g_lload rfl ?_
          refine g_lcmp (fun v976 ov976 => ?_)
          have zv976 := lcm_eq ov976
          have se := is_cmp p975 p958 zv976
          refine g_if_ne (fun c977 => ?_) (fun c977 => ?_)
          · refine g_aload_n rfl ?_
            refine g_gfr hIH963 sx_24 rfl ?_
            refine g_iload rfl ?_
            refine g_invvi hIH963 sx_25 rfl rfl rfl rfl (w_27 25 zCo_25 v929 (by omega) H963 hIH963 hJH963) (fun v980 H978 r979 => ?_)
            obtain ⟨rfl, p981⟩ := r979
            have hzv980 : v980.toInt = hrX H v929.toInt.toNat := ha_kp m971 p981
            have hyv980 : 0 ≤ v980.toInt ∧ v980.toInt ≤ 999 := by rw [hzv980]; exact (hp0.1 v929.toInt.toNat (by omega)).1
            refine g_istore_n (l' := [(0, .ref 24), (1, .int a1), (2, .int a2), (3, .int v980), (4, .int v929), (5, .long v957), (7, .int v961)]) rfl rfl ?_
            refine g_nop ?_
            refine g_iinc (l' := (fun v982 => [(0, .ref 24), (1, .int a1), (2, .int a2), (3, .int v980), (4, .int v982), (5, .long v957), (7, .int v961)])) rfl rfl (by decide) (by omega) (fun _ => rfl) (fun v982 ev982 => ?_)
            refine g_goto ?_
            refine gG_pick [0, 1, 2, 3, 4] (l' := [(0, .ref 24), (1, .int a1), (2, .int a2), (3, .int v980), (4, .int v982)]) rfl ?_
            exact ihL933 v980 v982 H963 hIH963 hJH963 e970 m971 (by omega) (by omega) (by rw [show v982.toInt.toNat = v929.toInt.toNat + 1 by omega]; exact wzv929) (sr_y (p := v929.toInt.toNat) (by omega) (by show (¬ (∀ x, x < 40 → (inn (fX H (v929.toInt.toNat + 1)) x a1.toInt = 1 ↔ inn (fX H v929.toInt.toNat) x a1.toInt = 1)) ∨ ¬ ((fX H (v929.toInt.toNat + 1)).kd a1.toInt.toNat = -1 ↔ (fX H v929.toInt.toNat).kd a1.toInt.toNat = -1)); first | exact Or.inl (fun y => absurd (se.mpr y) (by omega)) | exact Or.inr (by omega)) (by omega)) (hx_st q4 (by omega) (by omega)) (by omega)
          · refine g_aload_n rfl ?_
            refine g_gfr hIH963 sx_24 rfl ?_
            refine g_iload_n rfl ?_
            refine g_invvi hIH963 sx_28 rfl rfl rfl rfl (w_88 28 zWo_28 a1 (by omega) H963 hIH963 hJH963 wzv929) (fun v985 H983 r984 => ?_)
            obtain ⟨rfl, bv985, p986⟩ := r984
            refine g_iload rfl ?_
            refine g_if2_eq (fun c987 => ?_) (fun c987 => ?_)
            · refine g_iinc (l' := (fun v988 => [(0, .ref 24), (1, .int a1), (2, .int a2), (3, .int v928), (4, .int v988), (5, .long v957), (7, .int v961)])) rfl rfl (by decide) (by omega) (fun _ => rfl) (fun v988 ev988 => ?_)
              refine g_goto ?_
              refine gG_pick [0, 1, 2, 3, 4] (l' := [(0, .ref 24), (1, .int a1), (2, .int a2), (3, .int v928), (4, .int v988)]) rfl ?_
              exact ihL933 v928 v988 H963 hIH963 hJH963 e970 m971 (by omega) (by omega) (by rw [show v988.toInt.toNat = v929.toInt.toNat + 1 by omega]; exact wzv929) (sr_n q2 (by omega) (by show ¬ (¬ (∀ x, x < 40 → (inn (fX H (v929.toInt.toNat + 1)) x a1.toInt = 1 ↔ inn (fX H v929.toInt.toNat) x a1.toInt = 1)) ∨ ¬ ((fX H (v929.toInt.toNat + 1)).kd a1.toInt.toNat = -1 ↔ (fX H v929.toInt.toNat).kd a1.toInt.toNat = -1)); exact fun z => z.elim (fun y => y (se.mp (by omega))) (fun y => y (by omega)))) (hx_st q4 (by omega) (by omega)) (by omega)
            · refine g_nop ?_
              refine g_aload_n rfl ?_
              refine g_gfr hIH963 sx_24 rfl ?_
              refine g_iload rfl ?_
              refine g_invvi hIH963 sx_25 rfl rfl rfl rfl (w_27 25 zCo_25 v929 (by omega) H963 hIH963 hJH963) (fun v991 H989 r990 => ?_)
              obtain ⟨rfl, p992⟩ := r990
              have hzv991 : v991.toInt = hrX H v929.toInt.toNat := ha_kp m971 p992
              have hyv991 : 0 ≤ v991.toInt ∧ v991.toInt ≤ 999 := by rw [hzv991]; exact (hp0.1 v929.toInt.toNat (by omega)).1
              refine g_istore_n (l' := [(0, .ref 24), (1, .int a1), (2, .int a2), (3, .int v991), (4, .int v929), (5, .long v957), (7, .int v961)]) rfl rfl ?_
              refine g_nop ?_
              refine g_iinc (l' := (fun v993 => [(0, .ref 24), (1, .int a1), (2, .int a2), (3, .int v991), (4, .int v993), (5, .long v957), (7, .int v961)])) rfl rfl (by decide) (by omega) (fun _ => rfl) (fun v993 ev993 => ?_)
              refine g_goto ?_
              refine gG_pick [0, 1, 2, 3, 4] (l' := [(0, .ref 24), (1, .int a1), (2, .int a2), (3, .int v991), (4, .int v993)]) rfl ?_
              exact ihL933 v991 v993 H963 hIH963 hJH963 e970 m971 (by omega) (by omega) (by rw [show v993.toInt.toNat = v929.toInt.toNat + 1 by omega]; exact wzv929) (sr_y (p := v929.toInt.toNat) (by omega) (by show (¬ (∀ x, x < 40 → (inn (fX H (v929.toInt.toNat + 1)) x a1.toInt = 1 ↔ inn (fX H v929.toInt.toNat) x a1.toInt = 1)) ∨ ¬ ((fX H (v929.toInt.toNat + 1)).kd a1.toInt.toNat = -1 ↔ (fX H v929.toInt.toNat).kd a1.toInt.toNat = -1)); first | exact Or.inl (fun y => absurd (se.mpr y) (by omega)) | exact Or.inr (by omega)) (by omega)) (hx_st q4 (by omega) (by omega)) (by omega)
  exact L933 _ v926 v927 H919 hIH919 hJH919 e924 m925 (by omega) (by have := fZ_of hI sx_25 (f := 2) rfl; omega) (by rw [kv927]; exact p923) (sr_0 (by omega) (by omega)) (fun q hq => by omega) (Nat.lt_succ_self _)
set_option maxRecDepth 4000 in
set_option maxHeartbeats 4000000 in
/-- X9.still -/
theorem w_134  (a1 : Int32) (a2 : Int32) (H : mzH) (hI : gI SX H) (hJ : JX H) (hp0 : gdX H) : gCall 134 [.ref 0, .int a1, .int a2] H (gRi (fun v H' => gI SX H' ∧ JX H' ∧ fZ H' 1 1 = fZ H 1 1 ∧ kpX H H' ∧ ((v.toInt = -1 ∧ ¬ ((0 ≤ a1.toInt ∧ a1.toInt ≤ 39) ∧ (0 ≤ a2.toInt ∧ a2.toInt ≤ 999))) ∨ (((0 ≤ a1.toInt ∧ a1.toInt ≤ 39) ∧ (0 ≤ a2.toInt ∧ a2.toInt ≤ 999)) ∧ (∃ p : Nat, stX H a2.toInt p ∧ (((fX H p).en a1.toInt.toNat = 1 ∧ v.toInt = -4) ∨ (¬ (fX H p).en a1.toInt.toNat = 1 ∧ stR (fun q => (¬ (∀ x, x < 40 → (inn (fX H (q + 1)) x a1.toInt = 1 ↔ inn (fX H q) x a1.toInt = 1)) ∨ ¬ ((fX H (q + 1)).kd a1.toInt.toNat = -1 ↔ (fX H q).kd a1.toInt.toNat = -1))) (hrX H) p v.toInt))))))) := by
  obtain ⟨k1_1, ek1_1⟩ : ∃ z, z = fZ H 1 1 := ⟨_, rfl⟩
  have ik1_1 : k1_1.toInt = (fZ H 1 1).toInt := by rw [← ek1_1]
  have bk1_1 : 0 ≤ k1_1.toInt ∧ k1_1.toInt ≤ 900 := by rw [ek1_1]; exact fZ_of hI sx_1 rfl
  have mkfr : kpX H H := kpX_r
  refine gG_call [(0, .ref 0), (1, .int a1), (2, .int a2)] ⟨rfl, rfl, rfl, trivial⟩ ?_
  show gG 3 zB_134 (mzBlk zB_134 0) [(0, .ref 0), (1, .int a1), (2, .int a2)] [] H 0 0 _
  refine g_iload_n rfl ?_
  refine g_invti rfl rfl rfl (w_149 a1 H hI hJ) (fun v83 H81 r82 => ?_)
  obtain ⟨rfl, bv83, p84⟩ := r82
  refine g_if_eq (fun c85 => ?_) (fun c85 => ?_)
  · refine g_iconst (by decide) (fun v86 kv86 => ?_)
    exact g_iret ⟨_, rfl, hI, hJ, (ek1_1.symm.trans ek1_1), mkfr, (Or.inl ⟨by omega, by omega⟩)⟩
  · refine g_iload_n rfl ?_
    refine g_invti rfl rfl rfl (w_150 a2 H hI hJ) (fun v89 H87 r88 => ?_)
    obtain ⟨rfl, bv89, p90⟩ := r88
    refine g_if_ne (fun c91 => ?_) (fun c91 => ?_)
    · refine g_aload_n rfl ?_
      refine g_gfr hI sx_0 rfl ?_
      refine g_iload_n rfl ?_
      refine g_iload_n rfl ?_
      refine g_invvi hI sx_24 rfl rfl rfl rfl (w_67 a1 (by omega) a2 H hI hJ hp0) (fun v94 H92 r93 => ?_)
      obtain ⟨hIH92, hJH92, w95, m96, p97⟩ := r93
      have e98 : k1_1 = fZ H92 1 1 := ek1_1.trans w95.symm
      have m99 : kpX H H92 := kpX_t mkfr m96
      exact g_iret ⟨_, rfl, hIH92, hJH92, (e98.symm.trans ek1_1), m99, (Or.inr ⟨by omega, p97⟩)⟩
    · refine g_nop ?_
      refine g_iconst (by decide) (fun v100 kv100 => ?_)
      exact g_iret ⟨_, rfl, hI, hJ, (ek1_1.symm.trans ek1_1), mkfr, (Or.inl ⟨by omega, by omega⟩)⟩
