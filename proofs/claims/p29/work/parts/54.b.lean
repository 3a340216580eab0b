set_option maxRecDepth 4000 in
set_option maxHeartbeats 4000000 in
/-- X1.hasPlace -/
theorem s_11 (b : Nat) (hb : zBo b) (a1 : Int32) (H : mzH) (hI : gI SX H) (hJ : JX H) : gCall 11 [.ref b, .int a1] H (gRi (fun v H' => H = H' ∧ (0 ≤ v.toInt ∧ v.toInt ≤ 1) ∧ (v.toInt = 0 ∨ (0 ≤ a1.toInt ∧ a1.toInt ≤ 7)))) := by
  obtain ⟨hbr, hb0, hb1, hb2, hb3, hb4, hb5, hb6, hb7⟩ := id hb
  refine gG_call [(0, .ref b), (1, .int a1)] ⟨rfl, rfl, trivial⟩ ?_
  show gG 2 zB_11 (mzBlk zB_11 0) [(0, .ref b), (1, .int a1)] [] H 0 0 _
  refine g_iload_n rfl ?_
  refine g_if_lt (fun c25 => ?_) (fun c25 => ?_)
  · refine g_iconst (by decide) (fun v26 kv26 => ?_)
    refine g_nop ?_
    exact g_zret (by first | with_reducible assumption | omega) ⟨_, rfl, rfl, (by first | with_reducible assumption | omega), (by first | with_reducible assumption | omega)⟩
  · refine g_iload_n rfl ?_
    refine g_aload_n rfl ?_
    refine g_gfi hI hb0 rfl (fun v27 ev27 lv27 uv27 => ?_)
    refine g_if2_ge (fun c28 => ?_) (fun c28 => ?_)
    · refine g_iconst (by decide) (fun v29 kv29 => ?_)
      refine g_nop ?_
      exact g_zret (by first | with_reducible assumption | omega) ⟨_, rfl, rfl, (by first | with_reducible assumption | omega), (by first | with_reducible assumption | omega)⟩
    · refine g_iconst (by decide) (fun v30 kv30 => ?_)
      refine g_goto ?_
      exact g_zret (by first | with_reducible assumption | omega) ⟨_, rfl, rfl, (by first | with_reducible assumption | omega), (by first | with_reducible assumption | omega)⟩
set_option maxRecDepth 4000 in
set_option maxHeartbeats 4000000 in
/-- X1.hasMessage -/
theorem s_12 (b : Nat) (hb : zBo b) (a1 : Int32) (H : mzH) (hI : gI SX H) (hJ : JX H) : gCall 12 [.ref b, .int a1] H (gRi (fun v H' => H = H' ∧ (0 ≤ v.toInt ∧ v.toInt ≤ 1) ∧ (v.toInt = 0 ∨ (0 ≤ a1.toInt ∧ a1.toInt ≤ 59)))) := by
  obtain ⟨hbr, hb0, hb1, hb2, hb3, hb4, hb5, hb6, hb7⟩ := id hb
  refine gG_call [(0, .ref b), (1, .int a1)] ⟨rfl, rfl, trivial⟩ ?_
  show gG 2 zB_12 (mzBlk zB_12 0) [(0, .ref b), (1, .int a1)] [] H 0 0 _
  refine g_iload_n rfl ?_
  refine g_if_lt (fun c25 => ?_) (fun c25 => ?_)
  · refine g_iconst (by decide) (fun v26 kv26 => ?_)
    refine g_nop ?_
    exact g_zret (by first | with_reducible assumption | omega) ⟨_, rfl, rfl, (by first | with_reducible assumption | omega), (by first | with_reducible assumption | omega)⟩
  · refine g_iload_n rfl ?_
    refine g_aload_n rfl ?_
    refine g_gfi hI hb0 rfl (fun v27 ev27 lv27 uv27 => ?_)
    refine g_if2_ge (fun c28 => ?_) (fun c28 => ?_)
    · refine g_iconst (by decide) (fun v29 kv29 => ?_)
      refine g_nop ?_
      exact g_zret (by first | with_reducible assumption | omega) ⟨_, rfl, rfl, (by first | with_reducible assumption | omega), (by first | with_reducible assumption | omega)⟩
    · refine g_iconst (by decide) (fun v30 kv30 => ?_)
      refine g_goto ?_
      exact g_zret (by first | with_reducible assumption | omega) ⟨_, rfl, rfl, (by first | with_reducible assumption | omega), (by first | with_reducible assumption | omega)⟩
set_option maxRecDepth 4000 in
set_option maxHeartbeats 4000000 in
/-- X1.isLate -/
theorem s_20 (b : Nat) (hb : zBo b) (a1 : Int32) (ha1 : 0 ≤ a1.toInt ∧ a1.toInt ≤ 59) (H : mzH) (hI : gI SX H) (hJ : JX H) : gCall 20 [.ref b, .int a1] H (gRi (fun v H' => H = H' ∧ (0 ≤ v.toInt ∧ v.toInt ≤ 1))) := by
  obtain ⟨hbr, hb0, hb1, hb2, hb3, hb4, hb5, hb6, hb7⟩ := id hb
  refine gG_call [(0, .ref b), (1, .int a1)] ⟨rfl, rfl, trivial⟩ ?_
  show gG 3 zB_20 (mzBlk zB_20 0) [(0, .ref b), (1, .int a1)] [] H 0 0 _
  refine g_iconst (by decide) (fun v161 kv161 => ?_)
  refine g_istore_n (l' := [(0, .ref b), (1, .int a1), (2, .int v161)]) rfl rfl ?_
  refine g_nop ?_
  have L163 : ∀ (N : Nat) (v162 : Int32), (0 ≤ v162.toInt ∧ v162.toInt ≤ 59) → (59 - v162.toInt).toNat < N → gG 3 zB_20 (mzBlk zB_20 1) [(0, .ref b), (1, .int a1), (2, .int v162)] [] H 0 0 (gRi (fun v H' => H = H' ∧ (0 ≤ v.toInt ∧ v.toInt ≤ 1))) := by
    intro N
    induction N with
    | zero => intro v162 bv162 hmL163; exact absurd hmL163 (Nat.not_lt_zero _)
    | succ N ihL163 =>
      intro v162 bv162 hmL163
      refine g_iload_n rfl ?_
      refine g_iload_n rfl ?_
      refine g_if2_ge (fun c164 => ?_) (fun c164 => ?_)
      · refine g_iconst (by decide) (fun v165 kv165 => ?_)
        exact g_zret (by first | with_reducible assumption | omega) ⟨_, rfl, rfl, (by first | with_reducible assumption | omega)⟩
      · refine g_iload_n rfl ?_
        refine g_aload_n rfl ?_
        refine g_gfi hI hb0 rfl (fun v166 ev166 lv166 uv166 => ?_)
        refine g_if2_ge (fun c167 => ?_) (fun c167 => ?_)
        · refine g_iconst (by decide) (fun v168 kv168 => ?_)
          exact g_zret (by first | with_reducible assumption | omega) ⟨_, rfl, rfl, (by first | with_reducible assumption | omega)⟩
        · refine g_aload_n rfl ?_
          refine g_gfr hI hb0 rfl ?_
          refine g_iload_n rfl ?_
          refine g_iaload hI hb3 rfl (by first | with_reducible assumption | omega) (fun v169 ev169 lv169 uv169 => ?_)
          refine g_aload_n rfl ?_
          refine g_gfr hI hb0 rfl ?_
          refine g_iload_n rfl ?_
          refine g_iaload hI hb3 rfl (by first | with_reducible assumption | omega) (fun v170 ev170 lv170 uv170 => ?_)
          refine g_if2_le (fun c171 => ?_) (fun c171 => ?_)
          · refine g_iinc (l' := (fun v172 => [(0, .ref b), (1, .int a1), (2, .int v172)])) rfl rfl (by decide) (by first | with_reducible assumption | omega) (fun _ => rfl) (fun v172 ev172 => ?_)
            refine g_goto ?_
            exact ihL163 v172 (by first | with_reducible assumption | omega) (by first | with_reducible assumption | omega)
          · refine g_iconst (by decide) (fun v173 kv173 => ?_)
            exact g_zret (by first | with_reducible assumption | omega) ⟨_, rfl, rfl, (by first | with_reducible assumption | omega)⟩
  exact L163 _ v161 (by first | with_reducible assumption | omega) (Nat.lt_succ_self _)
set_option maxRecDepth 4000 in
set_option maxHeartbeats 4000000 in
/-- X1.lateOnes -/
theorem s_21 (b : Nat) (hb : zBo b) (H : mzH) (hI : gI SX H) (hJ : JX H) : gCall 21 [.ref b] H (gRi (fun v H' => H = H')) := by
  obtain ⟨hbr, hb0, hb1, hb2, hb3, hb4, hb5, hb6, hb7⟩ := id hb
  refine gG_call [(0, .ref b)] ⟨rfl, trivial⟩ ?_
  show gG 3 zB_21 (mzBlk zB_21 0) [(0, .ref b)] [] H 0 0 _
  refine g_iconst (by decide) (fun v429 kv429 => ?_)
  refine g_istore_n (l' := [(0, .ref b), (1, .int v429)]) rfl rfl ?_
  refine g_iconst (by decide) (fun v430 kv430 => ?_)
  refine g_istore_n (l' := [(0, .ref b), (1, .int v429), (2, .int v430)]) rfl rfl ?_
  refine g_nop ?_
  have L433 : ∀ (N : Nat) (v431 : Int32) (v432 : Int32), (0 ≤ v432.toInt ∧ v432.toInt ≤ 60) → (60 - v432.toInt).toNat < N → gG 3 zB_21 (mzBlk zB_21 1) [(0, .ref b), (1, .int v431), (2, .int v432)] [] H 0 0 (gRi (fun v H' => H = H')) := by
    intro N
    induction N with
    | zero => intro v431 v432 bv432 hmL433; exact absurd hmL433 (Nat.not_lt_zero _)
    | succ N ihL433 =>
      intro v431 v432 bv432 hmL433
      refine g_iload_n rfl ?_
      refine g_aload_n rfl ?_
      refine g_gfi hI hb0 rfl (fun v434 ev434 lv434 uv434 => ?_)
      refine g_if2_ge (fun c435 => ?_) (fun c435 => ?_)
      · refine g_iload_n rfl ?_
        exact g_iret ⟨_, rfl, rfl⟩
      · refine g_iload_n rfl ?_
        refine g_aload_n rfl ?_
        refine g_iload_n rfl ?_
        refine g_invvi hI hb0 rfl rfl rfl rfl (s_20 b hb v432 (by first | with_reducible assumption | omega) H hI hJ) (fun v438 H436 r437 => ?_)
        obtain ⟨rfl, bv438⟩ := r437
        refine g_if_eq (fun c439 => ?_) (fun c439 => ?_)
        · refine g_iconst (by decide) (fun v440 kv440 => ?_)
          refine g_nop ?_
          refine g_iadd (by have := gz_any v431; omega) (fun v441 ev441 => ?_)
          refine g_istore_n (l' := [(0, .ref b), (1, .int v441), (2, .int v432)]) rfl rfl ?_
          refine g_iinc (l' := (fun v442 => [(0, .ref b), (1, .int v441), (2, .int v442)])) rfl rfl (by decide) (by first | with_reducible assumption | omega) (fun _ => rfl) (fun v442 ev442 => ?_)
          refine g_goto ?_
          exact ihL433 v441 v442 (by first | with_reducible assumption | omega) (by first | with_reducible assumption | omega)
        · refine g_iconst (by decide) (fun v443 kv443 => ?_)
          refine g_goto ?_
          refine g_iadd' (fun v444 ov444 => ?_)
          refine g_istore_n (l' := [(0, .ref b), (1, .int v444), (2, .int v432)]) rfl rfl ?_
          refine g_iinc (l' := (fun v445 => [(0, .ref b), (1, .int v444), (2, .int v445)])) rfl rfl (by decide) (by first | with_reducible assumption | omega) (fun _ => rfl) (fun v445 ev445 => ?_)
          refine g_goto ?_
          exact ihL433 v444 v445 (by first | with_reducible assumption | omega) (by first | with_reducible assumption | omega)
  exact L433 _ v429 v430 (by first | with_reducible assumption | omega) (Nat.lt_succ_self _)
set_option maxRecDepth 4000 in
set_option maxHeartbeats 4000000 in
/-- X1.latestHour -/
theorem s_22 (b : Nat) (hb : zBo b) (H : mzH) (hI : gI SX H) (hJ : JX H) : gCall 22 [.ref b] H (gRi (fun v H' => H = H')) := by
  obtain ⟨hbr, hb0, hb1, hb2, hb3, hb4, hb5, hb6, hb7⟩ := id hb
  refine gG_call [(0, .ref b)] ⟨rfl, trivial⟩ ?_
  show gG 3 zB_22 (mzBlk zB_22 0) [(0, .ref b)] [] H 0 0 _
  refine g_iconst (by decide) (fun v107 kv107 => ?_)
  refine g_istore_n (l' := [(0, .ref b), (1, .int v107)]) rfl rfl ?_
  refine g_iconst (by decide) (fun v108 kv108 => ?_)
  refine g_istore_n (l' := [(0, .ref b), (1, .int v107), (2, .int v108)]) rfl rfl ?_
  refine g_nop ?_
  have L111 : ∀ (N : Nat) (v109 : Int32) (v110 : Int32), (0 ≤ v109.toInt ∧ v109.toInt ≤ 2147483647) → (0 ≤ v110.toInt ∧ v110.toInt ≤ 60) → (60 - v110.toInt).toNat < N → gG 3 zB_22 (mzBlk zB_22 1) [(0, .ref b), (1, .int v109), (2, .int v110)] [] H 0 0 (gRi (fun v H' => H = H')) := by
    intro N
    induction N with
    | zero => intro v109 v110 bv109 bv110 hmL111; exact absurd hmL111 (Nat.not_lt_zero _)
    | succ N ihL111 =>
      intro v109 v110 bv109 bv110 hmL111
      refine g_iload_n rfl ?_
      refine g_aload_n rfl ?_
      refine g_gfi hI hb0 rfl (fun v112 ev112 lv112 uv112 => ?_)
      refine g_if2_ge (fun c113 => ?_) (fun c113 => ?_)
      · refine g_iload_n rfl ?_
        exact g_iret ⟨_, rfl, rfl⟩
      · refine g_iload_n rfl ?_
        refine g_aload_n rfl ?_
        refine g_gfr hI hb0 rfl ?_
        refine g_iload_n rfl ?_
        refine g_iaload hI hb3 rfl (by first | with_reducible assumption | omega) (fun v114 ev114 lv114 uv114 => ?_)
        refine g_max rfl (fun v115 av115 bv115 dv115 => ?_)
        refine g_istore_n (l' := [(0, .ref b), (1, .int v115), (2, .int v110)]) rfl rfl ?_
        refine g_iinc (l' := (fun v116 => [(0, .ref b), (1, .int v115), (2, .int v116)])) rfl rfl (by decide) (by first | with_reducible assumption | omega) (fun _ => rfl) (fun v116 ev116 => ?_)
        refine g_goto ?_
        exact ihL111 v115 v116 (by have := gz_any v115; omega) (by first | with_reducible assumption | omega) (by first | with_reducible assumption | omega)
  exact L111 _ v107 v108 (by have := gz_any v107; omega) (by first | with_reducible assumption | omega) (Nat.lt_succ_self _)
set_option maxRecDepth 4000 in
set_option maxHeartbeats 4000000 in
/-- X2.takeHours -/
theorem s_24 (c : Nat) (hc : zCo c) (b : Nat) (hb : zBo b) (H : mzH) (hI : gI SX H) (hJ : JX H) : gCall 24 [.ref c, .ref b] H (gRv (fun H' => gI SX H' ∧ JX H' ∧ fZ H' 1 1 = fZ H 1 1 ∧ kpN c (c + 2) H H')) := by
  obtain ⟨hcr, hc0, hc1, hc2⟩ := id hc
  obtain ⟨hbr, hb0, hb1, hb2, hb3, hb4, hb5, hb6, hb7⟩ := id hb
  obtain ⟨k1_1, ek1_1⟩ : ∃ z, z = fZ H 1 1 := ⟨_, rfl⟩
  have ik1_1 : k1_1.toInt = (fZ H 1 1).toInt := by rw [← ek1_1]
  have bk1_1 : 0 ≤ k1_1.toInt ∧ k1_1.toInt ≤ 900 := by rw [ek1_1]; exact fZ_of hI sx_1 rfl
  have mkfr : kpN c (c + 2) H H := kpN_r
  refine gG_call [(0, .ref c), (1, .ref b)] ⟨rfl, rfl, trivial⟩ ?_
  show gG 2 zB_24 (mzBlk zB_24 0) [(0, .ref c), (1, .ref b)] [] H 0 0 _
  refine g_aload_n rfl ?_
  refine g_aload_n rfl ?_
  refine g_gfi hI hb0 rfl (fun v41 ev41 lv41 uv41 => ?_)
  refine g_pfi hI hc0 rfl (by first | with_reducible assumption | omega) (fun H42 eH42 hIH42 => ?_)
  have hJH42 : JX H42 := JX_sF eH42 hJ
  have e43 : k1_1 = fZ H42 1 1 := by rw [eH42, fZ_sF_nc (by first | with_reducible assumption | omega)]; exact ek1_1
  have m44 : kpN c (c + 2) H H42 := kpN_F mkfr eH42 (by first | with_reducible assumption | omega)
  refine g_aload_n rfl ?_
  refine g_gfr hIH42 hb0 rfl ?_
  refine g_iconst (by decide) (fun v45 kv45 => ?_)
  refine g_aload_n rfl ?_
  refine g_gfr hIH42 hc0 rfl ?_
  refine g_iconst (by decide) (fun v46 kv46 => ?_)
  refine g_bipush (by decide) (fun v47 kv47 => ?_)
  refine g_acp hIH42 hc1 hb3 (by decide) (by decide) (by first | with_reducible assumption | omega) (by first | with_reducible assumption | omega) (by first | with_reducible assumption | omega) rfl (fun H48 eH48 hIH48 => ?_)
  have hJH48 : JX H48 := JX_sC (by first | with_reducible assumption | omega) eH48 hJH42
  have e49 : k1_1 = fZ H48 1 1 := by rw [eH48, fZ_sC hIH42 hc1 hb3]; exact e43
  have m50 : kpN c (c + 2) H H48 := kpN_C hIH42 hc1 hb3 m44 eH48 (by first | with_reducible assumption | omega)
  exact g_ret ⟨rfl, hIH48, hJH48, (e49.symm.trans ek1_1), m50⟩
set_option maxRecDepth 4000 in
set_option maxHeartbeats 4000000 in
/-- X2.arrange -/
theorem s_25 (c : Nat) (hc : zCo c) (H : mzH) (hI : gI SX H) (hJ : JX H) : gCall 25 [.ref c] H (gRv (fun H' => gI SX H' ∧ JX H' ∧ fZ H' 1 1 = fZ H 1 1 ∧ kpN c (c + 2) H H')) := by
  obtain ⟨hcr, hc0, hc1, hc2⟩ := id hc
  obtain ⟨k1_1, ek1_1⟩ : ∃ z, z = fZ H 1 1 := ⟨_, rfl⟩
  have ik1_1 : k1_1.toInt = (fZ H 1 1).toInt := by rw [← ek1_1]
  have bk1_1 : 0 ≤ k1_1.toInt ∧ k1_1.toInt ≤ 900 := by rw [ek1_1]; exact fZ_of hI sx_1 rfl
  have mkfr : kpN c (c + 2) H H := kpN_r
  refine gG_call [(0, .ref c)] ⟨rfl, trivial⟩ ?_
  show gG 3 zB_25 (mzBlk zB_25 0) [(0, .ref c)] [] H 0 0 _
  refine g_iconst (by decide) (fun v305 kv305 => ?_)
  refine g_istore_n (l' := [(0, .ref c), (1, .int v305)]) rfl rfl ?_
  refine g_nop ?_
  have L310 : ∀ (N : Nat) (v306 : Int32) (H307 : mzH), gI SX H307 → JX H307 → k1_1 = fZ H307 1 1 → kpN c (c + 2) H H307 → (0 ≤ v306.toInt ∧ v306.toInt ≤ 60) → (60 - v306.toInt).toNat < N → gG 3 zB_25 (mzBlk zB_25 1) [(0, .ref c), (1, .int v306)] [] H307 0 0 (gRv (fun H' => gI SX H' ∧ JX H' ∧ fZ H' 1 1 = fZ H 1 1 ∧ kpN c (c + 2) H H')) := by
    intro N
    induction N with
    | zero => intro v306 H307 hIH307 hJH307 e308 m309 bv306 hmL310; exact absurd hmL310 (Nat.not_lt_zero _)
    | succ N ihL310 =>
      intro v306 H307 hIH307 hJH307 e308 m309 bv306 hmL310
      refine g_iload_n rfl ?_
      refine g_aload_n rfl ?_
      refine g_gfi hIH307 hc0 rfl (fun v311 ev311 lv311 uv311 => ?_)
      refine g_if2_ge (fun c312 => ?_) (fun c312 => ?_)
      · exact g_ret ⟨rfl, hIH307, hJH307, (e308.symm.trans ek1_1), m309⟩
      · refine g_iload_n rfl ?_
        refine g_istore_n (l' := [(0, .ref c), (1, .int v306), (2, .int v306)]) rfl rfl ?_
        refine g_nop ?_
        have L317 : ∀ (N : Nat) (v313 : Int32) (H314 : mzH), gI SX H314 → JX H314 → k1_1 = fZ H314 1 1 → kpN c (c + 2) H H314 → (0 ≤ v313.toInt ∧ v313.toInt ≤ 59) → (v313.toInt - (0)).toNat < N → gG 3 zB_25 (mzBlk zB_25 2) [(0, .ref c), (1, .int v306), (2, .int v313)] [] H314 0 0 (gRv (fun H' => gI SX H' ∧ JX H' ∧ fZ H' 1 1 = fZ H 1 1 ∧ kpN c (c + 2) H H')) := by
          intro N
          induction N with
          | zero => intro v313 H314 hIH314 hJH314 e315 m316 bv313 hmL317; exact absurd hmL317 (Nat.not_lt_zero _)
          | succ N ihL317 =>
            intro v313 H314 hIH314 hJH314 e315 m316 bv313 hmL317
            refine g_iload_n rfl ?_
            refine g_if_le (fun c318 => ?_) (fun c318 => ?_)
            · refine g_aload_n rfl ?_
              refine g_gfr hIH314 hc0 rfl ?_
              refine g_iload_n rfl ?_
              refine g_iload_n rfl ?_
              refine g_iastore hIH314 hc2 (by first | with_reducible assumption | omega) (by first | with_reducible assumption | omega) (fun H319 eH319 hIH319 => ?_)
              have hJH319 : JX H319 := JX_sA (by first | with_reducible assumption | omega) eH319 hJH314
              have e320 : k1_1 = fZ H319 1 1 := by rw [eH319, fZ_sA]; exact e315
              have m321 : kpN c (c + 2) H H319 := kpN_A m316 eH319 (by first | with_reducible assumption | omega)
              refine g_iinc (l' := (fun v322 => [(0, .ref c), (1, .int v322), (2, .int v313)])) rfl rfl (by decide) (by first | with_reducible assumption | omega) (fun _ => rfl) (fun v322 ev322 => ?_)
              refine g_goto ?_
              refine gG_pick [0, 1] (l' := [(0, .ref c), (1, .int v322)]) rfl ?_
              exact ihL310 v322 H319 hIH319 hJH319 e320 m321 (by first | with_reducible assumption | omega) (by first | with_reducible assumption | omega)
            · refine g_aload_n rfl ?_
              refine g_gfr hIH314 hc0 rfl ?_
              refine g_aload_n rfl ?_
              refine g_gfr hIH314 hc0 rfl ?_
              refine g_iload_n rfl ?_
              refine g_iconst (by decide) (fun v323 kv323 => ?_)
              refine g_isub (by first | with_reducible assumption | omega) (fun v324 ev324 => ?_)
              refine g_iaload hIH314 hc2 rfl (by first | with_reducible assumption | omega) (fun v325 ev325 lv325 uv325 => ?_)
              refine g_iaload hIH314 hc1 rfl (by first | with_reducible assumption | omega) (fun v326 ev326 lv326 uv326 => ?_)
              refine g_aload_n rfl ?_
              refine g_gfr hIH314 hc0 rfl ?_
              refine g_iload_n rfl ?_
              refine g_iaload hIH314 hc1 rfl (by first | with_reducible assumption | omega) (fun v327 ev327 lv327 uv327 => ?_)
              refine g_if2_le (fun c328 => ?_) (fun c328 => ?_)
              · refine g_aload_n rfl ?_
                refine g_gfr hIH314 hc0 rfl ?_
                refine g_iload_n rfl ?_
                refine g_iload_n rfl ?_
                refine g_iastore hIH314 hc2 (by first | with_reducible assumption | omega) (by first | with_reducible assumption | omega) (fun H329 eH329 hIH329 => ?_)
                have hJH329 : JX H329 := JX_sA (by first | with_reducible assumption | omega) eH329 hJH314
                have e330 : k1_1 = fZ H329 1 1 := by rw [eH329, fZ_sA]; exact e315
                have m331 : kpN c (c + 2) H H329 := kpN_A m316 eH329 (by first | with_reducible assumption | omega)
                refine g_iinc (l' := (fun v332 => [(0, .ref c), (1, .int v332), (2, .int v313)])) rfl rfl (by decide) (by first | with_reducible assumption | omega) (fun _ => rfl) (fun v332 ev332 => ?_)
                refine g_goto ?_
                refine gG_pick [0, 1] (l' := [(0, .ref c), (1, .int v332)]) rfl ?_
                exact ihL310 v332 H329 hIH329 hJH329 e330 m331 (by first | with_reducible assumption | omega) (by first | with_reducible assumption | omega)
              · refine g_aload_n rfl ?_
                refine g_gfr hIH314 hc0 rfl ?_
                refine g_iload_n rfl ?_
                refine g_aload_n rfl ?_
                refine g_gfr hIH314 hc0 rfl ?_
                refine g_iload_n rfl ?_
                refine g_iconst (by decide) (fun v333 kv333 => ?_)
                refine g_isub (by first | with_reducible assumption | omega) (fun v334 ev334 => ?_)
                refine g_iaload hIH314 hc2 rfl (by first | with_reducible assumption | omega) (fun v335 ev335 lv335 uv335 => ?_)
                refine g_iastore hIH314 hc2 (by first | with_reducible assumption | omega) (by first | with_reducible assumption | omega) (fun H336 eH336 hIH336 => ?_)
                have hJH336 : JX H336 := JX_sA (by first | with_reducible assumption | omega) eH336 hJH314
                have e337 : k1_1 = fZ H336 1 1 := by rw [eH336, fZ_sA]; exact e315
                have m338 : kpN c (c + 2) H H336 := kpN_A m316 eH336 (by first | with_reducible assumption | omega)
                refine g_iinc (l' := (fun v339 => [(0, .ref c), (1, .int v306), (2, .int v339)])) rfl rfl (by decide) (by first | with_reducible assumption | omega) (fun _ => rfl) (fun v339 ev339 => ?_)
                refine g_goto ?_
                exact ihL317 v339 H336 hIH336 hJH336 e337 m338 (by first | with_reducible assumption | omega) (by first | with_reducible assumption | omega)
        exact L317 _ v306 H307 hIH307 hJH307 e308 m309 (by first | with_reducible assumption | omega) (Nat.lt_succ_self _)
  exact L310 _ v305 H hI hJ ek1_1 mkfr (by first | with_reducible assumption | omega) (Nat.lt_succ_self _)
set_option maxRecDepth 4000 in
set_option maxHeartbeats 4000000 in
/-- X2.spotOf -/
theorem s_26 (c : Nat) (hc : zCo c) (a1 : Int32) (H : mzH) (hI : gI SX H) (hJ : JX H) : gCall 26 [.ref c, .int a1] H (gRi (fun v H' => H = H' ∧ (-1 ≤ v.toInt ∧ v.toInt ≤ 59))) := by
  obtain ⟨hcr, hc0, hc1, hc2⟩ := id hc
  refine gG_call [(0, .ref c), (1, .int a1)] ⟨rfl, rfl, trivial⟩ ?_
  show gG 3 zB_26 (mzBlk zB_26 0) [(0, .ref c), (1, .int a1)] [] H 0 0 _
  refine g_iconst (by decide) (fun v117 kv117 => ?_)
  refine g_istore_n (l' := [(0, .ref c), (1, .int a1), (2, .int v117)]) rfl rfl ?_
  refine g_nop ?_
  have L119 : ∀ (N : Nat) (v118 : Int32), (0 ≤ v118.toInt ∧ v118.toInt ≤ 60) → (60 - v118.toInt).toNat < N → gG 3 zB_26 (mzBlk zB_26 1) [(0, .ref c), (1, .int a1), (2, .int v118)] [] H 0 0 (gRi (fun v H' => H = H' ∧ (-1 ≤ v.toInt ∧ v.toInt ≤ 59))) := by
    intro N
    induction N with
    | zero => intro v118 bv118 hmL119; exact absurd hmL119 (Nat.not_lt_zero _)
    | succ N ihL119 =>
      intro v118 bv118 hmL119
      refine g_iload_n rfl ?_
      refine g_aload_n rfl ?_
      refine g_gfi hI hc0 rfl (fun v120 ev120 lv120 uv120 => ?_)
      refine g_if2_ge (fun c121 => ?_) (fun c121 => ?_)
      · refine g_iconst (by decide) (fun v122 kv122 => ?_)
        exact g_iret ⟨_, rfl, rfl, (by first | with_reducible assumption | omega)⟩
      · refine g_aload_n rfl ?_
        refine g_gfr hI hc0 rfl ?_
        refine g_iload_n rfl ?_
        refine g_iaload hI hc2 rfl (by first | with_reducible assumption | omega) (fun v123 ev123 lv123 uv123 => ?_)
        refine g_iload_n rfl ?_
        refine g_if2_ne (fun c124 => ?_) (fun c124 => ?_)
        · refine g_iinc (l' := (fun v125 => [(0, .ref c), (1, .int a1), (2, .int v125)])) rfl rfl (by decide) (by first | with_reducible assumption | omega) (fun _ => rfl) (fun v125 ev125 => ?_)
          refine g_goto ?_
          exact ihL119 v125 (by first | with_reducible assumption | omega) (by first | with_reducible assumption | omega)
        · refine g_iload_n rfl ?_
          exact g_iret ⟨_, rfl, rfl, (by first | with_reducible assumption | omega)⟩
  exact L119 _ v117 (by first | with_reducible assumption | omega) (Nat.lt_succ_self _)
set_option maxRecDepth 4000 in
set_option maxHeartbeats 4000000 in
/-- X3.lastVerdictWithout -/
theorem s_30 (a1 : Int32) (a2 : Int32) (H : mzH) (hI : gI SX H) (hJ : JX H) : gCall 30 [.ref 43, .int a1, .int a2] H (gRi (fun v H' => gI SX H' ∧ JX H' ∧ fZ H' 1 1 = fZ H 1 1 ∧ kpX H H')) := by
  obtain ⟨k1_1, ek1_1⟩ : ∃ z, z = fZ H 1 1 := ⟨_, rfl⟩
  have ik1_1 : k1_1.toInt = (fZ H 1 1).toInt := by rw [← ek1_1]
  have bk1_1 : 0 ≤ k1_1.toInt ∧ k1_1.toInt ≤ 900 := by rw [ek1_1]; exact fZ_of hI sx_1 rfl
  have mkfr : kpX H H := kpX_r
  refine gG_call [(0, .ref 43), (1, .int a1), (2, .int a2)] ⟨rfl, rfl, rfl, trivial⟩ ?_
  show gG 6 zB_30 (mzBlk zB_30 0) [(0, .ref 43), (1, .int a1), (2, .int a2)] [] H 0 0 _
  refine g_aload_n rfl ?_
  refine g_gfr hI sx_43 rfl ?_
  refine g_invvv hI sx_44 rfl rfl rfl rfl (s_83 44 zWo_44 H hI hJ) (fun H285 r286 => ?_)
  obtain ⟨hIH285, hJH285, w287, m288⟩ := r286
  have e289 : k1_1 = fZ H285 1 1 := ek1_1.trans w287.symm
  have m290 : kpX H H285 := kpX_t mkfr m288
  refine g_iconst (by decide) (fun v291 kv291 => ?_)
  refine g_istore_n (l' := [(0, .ref 43), (1, .int a1), (2, .int a2), (3, .int v291)]) rfl rfl ?_
  refine g_iconst (by decide) (fun v292 kv292 => ?_)
  refine g_istore (l' := [(0, .ref 43), (1, .int a1), (2, .int a2), (3, .int v291), (4, .int v292)]) rfl rfl ?_
  refine g_nop ?_
  have L298 : ∀ (N : Nat) (v293 : Int32) (v294 : Int32) (H295 : mzH), gI SX H295 → JX H295 → k1_1 = fZ H295 1 1 → kpX H H295 → (0 ≤ v294.toInt ∧ v294.toInt ≤ 60) → (60 - v294.toInt).toNat < N → gG 6 zB_30 (mzBlk zB_30 1) [(0, .ref 43), (1, .int a1), (2, .int a2), (3, .int v293), (4, .int v294)] [] H295 0 0 (gRi (fun v H' => gI SX H' ∧ JX H' ∧ fZ H' 1 1 = fZ H 1 1 ∧ kpX H H')) := by
    intro N
    induction N with
    | zero => intro v293 v294 H295 hIH295 hJH295 e296 m297 bv294 hmL298; exact absurd hmL298 (Nat.not_lt_zero _)
    | succ N ihL298 =>
      intro v293 v294 H295 hIH295 hJH295 e296 m297 bv294 hmL298
      refine g_iload rfl ?_
      refine g_iload_n rfl ?_
      refine g_if2_gt (fun c299 => ?_) (fun c299 => ?_)
      · refine g_iload_n rfl ?_
        exact g_iret ⟨_, rfl, hIH295, hJH295, (e296.symm.trans ek1_1), m297⟩
      · refine g_iload rfl ?_
        refine g_aload_n rfl ?_
        refine g_gfr hIH295 sx_43 rfl ?_
        refine g_gfr hIH295 sx_24 rfl ?_
        refine g_gfi hIH295 sx_25 rfl (fun v300 ev300 lv300 uv300 => ?_)
        refine g_if2_ge (fun c301 => ?_) (fun c301 => ?_)
        · refine g_iload_n rfl ?_
          exact g_iret ⟨_, rfl, hIH295, hJH295, (e296.symm.trans ek1_1), m297⟩
        · refine g_aload_n rfl ?_
          refine g_gfr hIH295 sx_43 rfl ?_
          refine g_gfr hIH295 sx_24 rfl ?_
          refine g_gfr hIH295 sx_25 rfl ?_
          refine g_iload rfl ?_
          refine g_iaload hIH295 sx_27 rfl (by first | with_reducible assumption | omega) (fun v302 ev302 lv302 uv302 => ?_)
          refine g_istore (l' := [(0, .ref 43), (1, .int a1), (2, .int a2), (3, .int v293), (4, .int v294), (5, .int v302)]) rfl rfl ?_
          refine g_iload rfl ?_
          refine g_iload_n rfl ?_
          refine g_if2_eq (fun c303 => ?_) (fun c303 => ?_)
          · refine g_iinc (l' := (fun v304 => [(0, .ref 43), (1, .int a1), (2, .int a2), (3, .int v293), (4, .int v304), (5, .int v302)])) rfl rfl (by decide) (by first | with_reducible assumption | omega) (fun _ => rfl) (fun v304 ev304 => ?_)
            refine g_goto ?_
            refine gG_pick [0, 1, 2, 3, 4] (l' := [(0, .ref 43), (1, .int a1), (2, .int a2), (3, .int v293), (4, .int v304)]) rfl ?_
            exact ihL298 v293 v304 H295 hIH295 hJH295 e296 m297 (by first | with_reducible assumption | omega) (by first | with_reducible assumption | omega)
          · refine g_aload_n rfl ?_
            refine g_gfr hIH295 sx_43 rfl ?_
            refine g_aload_n rfl ?_
            refine g_gfr hIH295 sx_43 rfl ?_
            refine g_iload rfl ?_
            refine g_aload_n rfl ?_
            refine g_gfr hIH295 sx_43 rfl ?_
            refine g_gfr hIH295 sx_3 rfl ?_
            refine g_iload rfl ?_
            refine g_iaload hIH295 sx_6 rfl (by first | with_reducible assumption | omega) (fun v305 ev305 lv305 uv305 => ?_)
            refine g_invvi hIH295 sx_44 rfl rfl rfl rfl (s_93 44 zWo_44 3 zBo_3 v302 (by first | with_reducible assumption | omega) v305 H295 hIH295 hJH295) (fun v308 H306 r307 => ?_)
            obtain ⟨hIH306, hJH306, w309, m310⟩ := r307
            have e311 : k1_1 = fZ H306 1 1 := e296.trans w309.symm
            have m312 : kpX H H306 := kpX_t m297 m310
            refine g_istore_n (l' := [(0, .ref 43), (1, .int a1), (2, .int a2), (3, .int v308), (4, .int v294), (5, .int v302)]) rfl rfl ?_
            refine g_nop ?_
            refine g_iinc (l' := (fun v313 => [(0, .ref 43), (1, .int a1), (2, .int a2), (3, .int v308), (4, .int v313), (5, .int v302)])) rfl rfl (by decide) (by first | with_reducible assumption | omega) (fun _ => rfl) (fun v313 ev313 => ?_)
            refine g_goto ?_
            refine gG_pick [0, 1, 2, 3, 4] (l' := [(0, .ref 43), (1, .int a1), (2, .int a2), (3, .int v308), (4, .int v313)]) rfl ?_
            exact ihL298 v308 v313 H306 hIH306 hJH306 e311 m312 (by first | with_reducible assumption | omega) (by first | with_reducible assumption | omega)
  exact L298 _ v291 v292 H285 hIH285 hJH285 e289 m290 (by first | with_reducible assumption | omega) (Nat.lt_succ_self _)
set_option maxRecDepth 4000 in
set_option maxHeartbeats 4000000 in
/-- X8.whereIs -/
theorem s_91 (w : Nat) (hw : zWo w) (a1 : Int32) (ha1 : 0 ≤ a1.toInt ∧ a1.toInt ≤ 39) (H : mzH) (hI : gI SX H) (hJ : JX H) : gCall 91 [.ref w, .int a1] H (gRi (fun v H' => H = H')) := by
  obtain ⟨hwr, hw0, hw1, hw2, hw3, hw4, hw5, hw6⟩ := id hw
  refine gG_call [(0, .ref w), (1, .int a1)] ⟨rfl, rfl, trivial⟩ ?_
  show gG 3 zB_91 (mzBlk zB_91 0) [(0, .ref w), (1, .int a1)] [] H 0 0 _
  refine g_aload_n rfl ?_
  refine g_iload_n rfl ?_
  refine g_invvi hI hw0 rfl rfl rfl rfl (s_88 w hw a1 (by first | with_reducible assumption | omega) H hI hJ) (fun v87 H85 r86 => ?_)
  obtain ⟨rfl, bv87⟩ := r86
  refine g_if_ne (fun c88 => ?_) (fun c88 => ?_)
  · refine g_aload_n rfl ?_
    refine g_iload_n rfl ?_
    refine g_iconst (by decide) (fun v89 kv89 => ?_)
    refine g_invvi hI hw0 rfl rfl rfl rfl (s_85 w hw a1 (by first | with_reducible assumption | omega) v89 H hI hJ) (fun v92 H90 r91 => ?_)
    obtain ⟨rfl, bv92⟩ := r91
    refine g_if_eq (fun c93 => ?_) (fun c93 => ?_)
    · refine g_aload_n rfl ?_
      refine g_iload_n rfl ?_
      refine g_invvi hI hw0 rfl rfl rfl rfl (s_89 w hw a1 (by first | with_reducible assumption | omega) H hI hJ) (fun v96 H94 r95 => ?_)
      obtain ⟨rfl, bv96⟩ := r95
      refine g_istore_n (l' := [(0, .ref w), (1, .int a1), (2, .int v96)]) rfl rfl ?_
      refine g_aload_n rfl ?_
      refine g_iload_n rfl ?_
      refine g_iconst (by decide) (fun v97 kv97 => ?_)
      refine g_invvi hI hw0 rfl rfl rfl rfl (s_85 w hw v96 (by first | with_reducible assumption | omega) v97 H hI hJ) (fun v100 H98 r99 => ?_)
      obtain ⟨rfl, bv100⟩ := r99
      refine g_if_eq (fun c101 => ?_) (fun c101 => ?_)
      · refine g_aload_n rfl ?_
        refine g_gfr hI hw0 rfl ?_
        refine g_iload_n rfl ?_
        refine g_iaload hI hw3 rfl (by first | with_reducible assumption | omega) (fun v102 ev102 lv102 uv102 => ?_)
        refine g_nop ?_
        exact g_iret ⟨_, rfl, rfl⟩
      · refine g_bipush (by decide) (fun v103 kv103 => ?_)
        refine g_goto ?_
        exact g_iret ⟨_, rfl, rfl⟩
    · refine g_bipush (by decide) (fun v104 kv104 => ?_)
      exact g_iret ⟨_, rfl, rfl⟩
  · refine g_bipush (by decide) (fun v105 kv105 => ?_)
    exact g_iret ⟨_, rfl, rfl⟩
set_option maxRecDepth 4000 in
set_option maxHeartbeats 4000000 in
/-- X3.placeWithout -/
theorem s_29 (a1 : Int32) (a2 : Int32) (ha2 : 0 ≤ a2.toInt ∧ a2.toInt ≤ 39) (H : mzH) (hI : gI SX H) (hJ : JX H) : gCall 29 [.ref 43, .int a1, .int a2] H (gRi (fun v H' => gI SX H' ∧ JX H' ∧ fZ H' 1 1 = fZ H 1 1 ∧ kpX H H')) := by
  obtain ⟨k1_1, ek1_1⟩ : ∃ z, z = fZ H 1 1 := ⟨_, rfl⟩
  have ik1_1 : k1_1.toInt = (fZ H 1 1).toInt := by rw [← ek1_1]
  have bk1_1 : 0 ≤ k1_1.toInt ∧ k1_1.toInt ≤ 900 := by rw [ek1_1]; exact fZ_of hI sx_1 rfl
  have mkfr : kpX H H := kpX_r
  refine gG_call [(0, .ref 43), (1, .int a1), (2, .int a2)] ⟨rfl, rfl, rfl, trivial⟩ ?_
  show gG 3 zB_29 (mzBlk zB_29 0) [(0, .ref 43), (1, .int a1), (2, .int a2)] [] H 0 0 _
  refine g_aload_n rfl ?_
  refine g_iload_n rfl ?_
  refine g_aload_n rfl ?_
  refine g_gfr hI sx_43 rfl ?_
  refine g_gfr hI sx_24 rfl ?_
  refine g_gfi hI sx_25 rfl (fun v53 ev53 lv53 uv53 => ?_)
  refine g_iconst (by decide) (fun v54 kv54 => ?_)
  refine g_isub (by first | with_reducible assumption | omega) (fun v55 ev55 => ?_)
  refine g_invvi hI sx_43 rfl rfl rfl rfl (s_30 a1 v55 H hI hJ) (fun v58 H56 r57 => ?_)
  obtain ⟨hIH56, hJH56, w59, m60⟩ := r57
  have e61 : k1_1 = fZ H56 1 1 := ek1_1.trans w59.symm
  have m62 : kpX H H56 := kpX_t mkfr m60
  refine g_pop rfl ?_
  refine g_aload_n rfl ?_
  refine g_gfr hIH56 sx_43 rfl ?_
  refine g_iload_n rfl ?_
  refine g_invvi hIH56 sx_44 rfl rfl rfl rfl (s_91 44 zWo_44 a2 (by first | with_reducible assumption | omega) H56 hIH56 hJH56) (fun v65 H63 r64 => ?_)
  obtain rfl := r64
  exact g_iret ⟨_, rfl, hIH56, hJH56, (e61.symm.trans ek1_1), m62⟩
set_option maxRecDepth 4000 in
set_option maxHeartbeats 4000000 in
/-- X3.deciding -/
theorem s_31 (a1 : Int32) (ha1 : 0 ≤ a1.toInt ∧ a1.toInt ≤ 59) (H : mzH) (hI : gI SX H) (hJ : JX H) : gCall 31 [.ref 43, .int a1] H (gRl (fun _ H' => gI SX H' ∧ JX H' ∧ fZ H' 1 1 = fZ H 1 1 ∧ kpX H H')) := by
  obtain ⟨k1_1, ek1_1⟩ : ∃ z, z = fZ H 1 1 := ⟨_, rfl⟩
  have ik1_1 : k1_1.toInt = (fZ H 1 1).toInt := by rw [← ek1_1]
  have bk1_1 : 0 ≤ k1_1.toInt ∧ k1_1.toInt ≤ 900 := by rw [ek1_1]; exact fZ_of hI sx_1 rfl
  have mkfr : kpX H H := kpX_r
  refine gG_call [(0, .ref 43), (1, .int a1)] ⟨rfl, rfl, trivial⟩ ?_
  show gG 8 zB_31 (mzBlk zB_31 0) [(0, .ref 43), (1, .int a1)] [] H 0 0 _
  refine g_lconst (fun v502 _ => ?_)
  refine g_lstore_n (l' := [(0, .ref 43), (1, .int a1), (2, .long v502)]) rfl rfl ?_
  refine g_aload_n rfl ?_
  refine g_gfr hI sx_43 rfl ?_
  refine g_gfr hI sx_24 rfl ?_
  refine g_iload_n rfl ?_
  refine g_invvi hI sx_25 rfl rfl rfl rfl (s_26 25 zCo_25 a1 H hI hJ) (fun v505 H503 r504 => ?_)
  obtain ⟨rfl, bv505⟩ := r504
  refine g_istore (l' := [(0, .ref 43), (1, .int a1), (2, .long v502), (4, .int v505)]) rfl rfl ?_
  refine g_iconst (by decide) (fun v506 kv506 => ?_)
  refine g_istore (l' := [(0, .ref 43), (1, .int a1), (2, .long v502), (4, .int v505), (5, .int v506)]) rfl rfl ?_
  refine g_nop ?_
  have L512 : ∀ (N : Nat) (v507 : Int64) (v508 : Int32) (H509 : mzH), gI SX H509 → JX H509 → k1_1 = fZ H509 1 1 → kpX H H509 → (0 ≤ v508.toInt ∧ v508.toInt ≤ 59) → (59 - v508.toInt).toNat < N → gG 8 zB_31 (mzBlk zB_31 1) [(0, .ref 43), (1, .int a1), (2, .long v507), (4, .int v505), (5, .int v508)] [] H509 0 0 (gRl (fun _ H' => gI SX H' ∧ JX H' ∧ fZ H' 1 1 = fZ H 1 1 ∧ kpX H H')) := by
    intro N
    induction N with
    | zero => intro v507 v508 H509 hIH509 hJH509 e510 m511 bv508 hmL512; exact absurd hmL512 (Nat.not_lt_zero _)
    | succ N ihL512 =>
      intro v507 v508 H509 hIH509 hJH509 e510 m511 bv508 hmL512
      refine g_iload rfl ?_
      refine g_iload rfl ?_
      refine g_if2_ge (fun c513 => ?_) (fun c513 => ?_)
      · refine g_lload_n rfl ?_
        exact g_lret ⟨_, rfl, hIH509, hJH509, (e510.symm.trans ek1_1), m511⟩
      · refine g_aload_n rfl ?_
        refine g_gfr hIH509 sx_43 rfl ?_
        refine g_gfr hIH509 sx_24 rfl ?_
        refine g_gfr hIH509 sx_25 rfl ?_
        refine g_iload rfl ?_
        refine g_iaload hIH509 sx_27 rfl (by first | with_reducible assumption | omega) (fun v514 ev514 lv514 uv514 => ?_)
        refine g_istore (l' := [(0, .ref 43), (1, .int a1), (2, .long v507), (4, .int v505), (5, .int v508), (6, .int v514)]) rfl rfl ?_
        refine g_aload_n rfl ?_
        refine g_iload rfl ?_
        refine g_iload rfl ?_
        refine g_invvi hIH509 sx_43 rfl rfl rfl rfl (s_30 v514 v505 H509 hIH509 hJH509) (fun v517 H515 r516 => ?_)
        obtain ⟨hIH515, hJH515, w518, m519⟩ := r516
        have e520 : k1_1 = fZ H515 1 1 := e510.trans w518.symm
        have m521 : kpX H H515 := kpX_t m511 m519
        refine g_if_ne (fun c522 => ?_) (fun c522 => ?_)
        · refine g_iconst (by decide) (fun v523 kv523 => ?_)
          refine g_nop ?_
          refine g_istore (l' := [(0, .ref 43), (1, .int a1), (2, .long v507), (4, .int v505), (5, .int v508), (6, .int v514), (7, .int v523)]) rfl rfl ?_
          refine g_iload rfl ?_
          refine g_aload_n rfl ?_
          refine g_gfr hIH515 sx_43 rfl ?_
          refine g_gfr hIH515 sx_24 rfl ?_
          refine g_iload_n rfl ?_
          refine g_iaload hIH515 sx_42 rfl (by first | with_reducible assumption | omega) (fun v524 ev524 lv524 uv524 => ?_)
          refine g_if_ne (fun c525 => ?_) (fun c525 => ?_)
          · refine g_iconst (by decide) (fun v526 kv526 => ?_)
            refine g_nop ?_
            refine g_if2_eq (fun c527 => ?_) (fun c527 => ?_)
            · refine g_iinc (l' := (fun v528 => [(0, .ref 43), (1, .int a1), (2, .long v507), (4, .int v505), (5, .int v528), (6, .int v514), (7, .int v523)])) rfl rfl (by decide) (by first | with_reducible assumption | omega) (fun _ => rfl) (fun v528 ev528 => ?_)
              refine g_goto ?_
              refine gG_pick [0, 1, 2, 4, 5] (l' := [(0, .ref 43), (1, .int a1), (2, .long v507), (4, .int v505), (5, .int v528)]) rfl ?_
              exact ihL512 v507 v528 H515 hIH515 hJH515 e520 m521 (by first | with_reducible assumption | omega) (by first | with_reducible assumption | omega)
            · exfalso; omega
          · refine g_iconst (by decide) (fun v529 kv529 => ?_)
            refine g_goto ?_
            refine g_if2_eq (fun c530 => ?_) (fun c530 => ?_)
            · exfalso; omega
            · refine g_lload_n rfl ?_
              refine g_lconst (fun v531 _ => ?_)
              refine g_iload rfl ?_
              refine g_lshl (fun v532 _ => ?_)
              refine g_lor (fun v533 _ => ?_)
              refine g_lstore_n (l' := [(0, .ref 43), (1, .int a1), (2, .long v533), (4, .int v505), (5, .int v508), (6, .int v514), (7, .int v523)]) rfl rfl ?_
              refine g_nop ?_
              refine g_iinc (l' := (fun v534 => [(0, .ref 43), (1, .int a1), (2, .long v533), (4, .int v505), (5, .int v534), (6, .int v514), (7, .int v523)])) rfl rfl (by decide) (by first | with_reducible assumption | omega) (fun _ => rfl) (fun v534 ev534 => ?_)
              refine g_goto ?_
              refine gG_pick [0, 1, 2, 4, 5] (l' := [(0, .ref 43), (1, .int a1), (2, .long v533), (4, .int v505), (5, .int v534)]) rfl ?_
              exact ihL512 v533 v534 H515 hIH515 hJH515 e520 m521 (by first | with_reducible assumption | omega) (by first | with_reducible assumption | omega)
        · refine g_iconst (by decide) (fun v535 kv535 => ?_)
          refine g_goto ?_
          refine g_istore (l' := [(0, .ref 43), (1, .int a1), (2, .long v507), (4, .int v505), (5, .int v508), (6, .int v514), (7, .int v535)]) rfl rfl ?_
          refine g_iload rfl ?_
          refine g_aload_n rfl ?_
          refine g_gfr hIH515 sx_43 rfl ?_
          refine g_gfr hIH515 sx_24 rfl ?_
          refine g_iload_n rfl ?_
          refine g_iaload hIH515 sx_42 rfl (by first | with_reducible assumption | omega) (fun v536 ev536 lv536 uv536 => ?_)
          refine g_if_ne (fun c537 => ?_) (fun c537 => ?_)
          · refine g_iconst (by decide) (fun v538 kv538 => ?_)
            refine g_nop ?_
            refine g_if2_eq (fun c539 => ?_) (fun c539 => ?_)
            · exfalso; omega
            · refine g_lload_n rfl ?_
              refine g_lconst (fun v540 _ => ?_)
              refine g_iload rfl ?_
              refine g_lshl (fun v541 _ => ?_)
              refine g_lor (fun v542 _ => ?_)
              refine g_lstore_n (l' := [(0, .ref 43), (1, .int a1), (2, .long v542), (4, .int v505), (5, .int v508), (6, .int v514), (7, .int v535)]) rfl rfl ?_
              refine g_nop ?_
              refine g_iinc (l' := (fun v543 => [(0, .ref 43), (1, .int a1), (2, .long v542), (4, .int v505), (5, .int v543), (6, .int v514), (7, .int v535)])) rfl rfl (by decide) (by first | with_reducible assumption | omega) (fun _ => rfl) (fun v543 ev543 => ?_)
              refine g_goto ?_
              refine gG_pick [0, 1, 2, 4, 5] (l' := [(0, .ref 43), (1, .int a1), (2, .long v542), (4, .int v505), (5, .int v543)]) rfl ?_
              exact ihL512 v542 v543 H515 hIH515 hJH515 e520 m521 (by first | with_reducible assumption | omega) (by first | with_reducible assumption | omega)
          · refine g_iconst (by decide) (fun v544 kv544 => ?_)
            refine g_goto ?_
            refine g_if2_eq (fun c545 => ?_) (fun c545 => ?_)
            · refine g_iinc (l' := (fun v546 => [(0, .ref 43), (1, .int a1), (2, .long v507), (4, .int v505), (5, .int v546), (6, .int v514), (7, .int v535)])) rfl rfl (by decide) (by first | with_reducible assumption | omega) (fun _ => rfl) (fun v546 ev546 => ?_)
              refine g_goto ?_
              refine gG_pick [0, 1, 2, 4, 5] (l' := [(0, .ref 43), (1, .int a1), (2, .long v507), (4, .int v505), (5, .int v546)]) rfl ?_
              exact ihL512 v507 v546 H515 hIH515 hJH515 e520 m521 (by first | with_reducible assumption | omega) (by first | with_reducible assumption | omega)
            · exfalso; omega
  exact L512 _ v502 v506 H hI hJ ek1_1 mkfr (by first | with_reducible assumption | omega) (Nat.lt_succ_self _)
set_option maxRecDepth 4000 in
set_option maxHeartbeats 4000000 in
/-- X3.outcome -/
theorem s_34 (a1 : Int32) (ha1 : -1 ≤ a1.toInt ∧ a1.toInt ≤ 39) (H : mzH) (hI : gI SX H) (hJ : JX H) : gCall 34 [.ref 43, .int a1] H (gRi (fun v H' => gI SX H' ∧ JX H' ∧ fZ H' 1 1 = fZ H 1 1 ∧ kpX H H')) := by
  obtain ⟨k1_1, ek1_1⟩ : ∃ z, z = fZ H 1 1 := ⟨_, rfl⟩
  have ik1_1 : k1_1.toInt = (fZ H 1 1).toInt := by rw [← ek1_1]
  have bk1_1 : 0 ≤ k1_1.toInt ∧ k1_1.toInt ≤ 900 := by rw [ek1_1]; exact fZ_of hI sx_1 rfl
  have mkfr : kpX H H := kpX_r
  refine gG_call [(0, .ref 43), (1, .int a1)] ⟨rfl, rfl, trivial⟩ ?_
  show gG 4 zB_34 (mzBlk zB_34 0) [(0, .ref 43), (1, .int a1)] [] H 0 0 _
  refine g_aload_n rfl ?_
  refine g_gfr hI sx_43 rfl ?_
  refine g_invvv hI sx_51 rfl rfl rfl rfl (s_25 51 zCo_51 H hI hJ) (fun H837 r838 => ?_)
  obtain ⟨hIH837, hJH837, w839, m840⟩ := r838
  have e841 : k1_1 = fZ H837 1 1 := ek1_1.trans w839.symm
  have m842 : kpX H H837 := kpX_t mkfr (kpX_N (by decide) m840)
  refine g_aload_n rfl ?_
  refine g_gfr hIH837 sx_43 rfl ?_
  refine g_invvv hIH837 sx_44 rfl rfl rfl rfl (s_83 44 zWo_44 H837 hIH837 hJH837) (fun H843 r844 => ?_)
  obtain ⟨hIH843, hJH843, w845, m846⟩ := r844
  have e847 : k1_1 = fZ H843 1 1 := e841.trans w845.symm
  have m848 : kpX H H843 := kpX_t m842 m846
  refine g_iconst (by decide) (fun v849 kv849 => ?_)
  refine g_istore_n (l' := [(0, .ref 43), (1, .int a1), (2, .int v849)]) rfl rfl ?_
  refine g_iconst (by decide) (fun v850 kv850 => ?_)
  refine g_istore_n (l' := [(0, .ref 43), (1, .int a1), (2, .int v849), (3, .int v850)]) rfl rfl ?_
  refine g_nop ?_
  have L856 : ∀ (N : Nat) (v851 : Int32) (v852 : Int32) (H853 : mzH), gI SX H853 → JX H853 → k1_1 = fZ H853 1 1 → kpX H H853 → (0 ≤ v852.toInt ∧ v852.toInt ≤ 60) → (60 - v852.toInt).toNat < N → gG 4 zB_34 (mzBlk zB_34 1) [(0, .ref 43), (1, .int a1), (2, .int v851), (3, .int v852)] [] H853 0 0 (gRi (fun v H' => gI SX H' ∧ JX H' ∧ fZ H' 1 1 = fZ H 1 1 ∧ kpX H H')) := by
    intro N
    induction N with
    | zero => intro v851 v852 H853 hIH853 hJH853 e854 m855 bv852 hmL856; exact absurd hmL856 (Nat.not_lt_zero _)
    | succ N ihL856 =>
      intro v851 v852 H853 hIH853 hJH853 e854 m855 bv852 hmL856
      refine g_iload_n rfl ?_
      refine g_aload_n rfl ?_
      refine g_gfr hIH853 sx_43 rfl ?_
      refine g_gfi hIH853 sx_51 rfl (fun v857 ev857 lv857 uv857 => ?_)
      refine g_if2_ge (fun c858 => ?_) (fun c858 => ?_)
      · refine g_iload_n rfl ?_
        refine g_if_ge (fun c859 => ?_) (fun c859 => ?_)
        · refine g_aload_n rfl ?_
          refine g_gfr hIH853 sx_43 rfl ?_
          refine g_iload_n rfl ?_
          refine g_invvi hIH853 sx_44 rfl rfl rfl rfl (s_91 44 zWo_44 a1 (by first | with_reducible assumption | omega) H853 hIH853 hJH853) (fun v862 H860 r861 => ?_)
          obtain rfl := r861
          refine g_nop ?_
          exact g_iret ⟨_, rfl, hIH853, hJH853, (e854.symm.trans ek1_1), m855⟩
        · refine g_iload_n rfl ?_
          refine g_goto ?_
          exact g_iret ⟨_, rfl, hIH853, hJH853, (e854.symm.trans ek1_1), m855⟩
      · refine g_iload_n rfl ?_
        refine g_aload_n rfl ?_
        refine g_gfr hIH853 sx_43 rfl ?_
        refine g_aload_n rfl ?_
        refine g_gfr hIH853 sx_43 rfl ?_
        refine g_aload_n rfl ?_
        refine g_gfr hIH853 sx_43 rfl ?_
        refine g_gfr hIH853 sx_51 rfl ?_
        refine g_iload_n rfl ?_
        refine g_iaload hIH853 sx_53 rfl (by first | with_reducible assumption | omega) (fun v863 ev863 lv863 uv863 => ?_)
        refine g_aload_n rfl ?_
        refine g_gfr hIH853 sx_43 rfl ?_
        refine g_iload_n rfl ?_
        refine g_invvi hIH853 sx_51 rfl rfl rfl rfl (s_27 51 zCo_51 v852 (by first | with_reducible assumption | omega) H853 hIH853 hJH853) (fun v866 H864 r865 => ?_)
        obtain rfl := r865
        refine g_invvi hIH853 sx_44 rfl rfl rfl rfl (s_93 44 zWo_44 3 zBo_3 v863 (by first | with_reducible assumption | omega) v866 H853 hIH853 hJH853) (fun v869 H867 r868 => ?_)
        obtain ⟨hIH867, hJH867, w870, m871⟩ := r868
        have e872 : k1_1 = fZ H867 1 1 := e854.trans w870.symm
        have m873 : kpX H H867 := kpX_t m855 m871
        refine g_if_eq (fun c874 => ?_) (fun c874 => ?_)
        · refine g_iconst (by decide) (fun v875 kv875 => ?_)
          refine g_nop ?_
          refine g_iadd (by have := gz_any v851; omega) (fun v876 ev876 => ?_)
          refine g_istore_n (l' := [(0, .ref 43), (1, .int a1), (2, .int v876), (3, .int v852)]) rfl rfl ?_
          refine g_iinc (l' := (fun v877 => [(0, .ref 43), (1, .int a1), (2, .int v876), (3, .int v877)])) rfl rfl (by decide) (by first | with_reducible assumption | omega) (fun _ => rfl) (fun v877 ev877 => ?_)
          refine g_goto ?_
          exact ihL856 v876 v877 H867 hIH867 hJH867 e872 m873 (by first | with_reducible assumption | omega) (by first | with_reducible assumption | omega)
        · refine g_iconst (by decide) (fun v878 kv878 => ?_)
          refine g_goto ?_
          refine g_iadd' (fun v879 ov879 => ?_)
          refine g_istore_n (l' := [(0, .ref 43), (1, .int a1), (2, .int v879), (3, .int v852)]) rfl rfl ?_
          refine g_iinc (l' := (fun v880 => [(0, .ref 43), (1, .int a1), (2, .int v879), (3, .int v880)])) rfl rfl (by decide) (by first | with_reducible assumption | omega) (fun _ => rfl) (fun v880 ev880 => ?_)
          refine g_goto ?_
          exact ihL856 v879 v880 H867 hIH867 hJH867 e872 m873 (by first | with_reducible assumption | omega) (by first | with_reducible assumption | omega)
  exact L856 _ v849 v850 H843 hIH843 hJH843 e847 m848 (by first | with_reducible assumption | omega) (Nat.lt_succ_self _)
set_option maxRecDepth 4000 in
set_option maxHeartbeats 4000000 in
/-- X3.outcomeAt -/
theorem s_32 (a1 : Int32) (ha1 : 0 ≤ a1.toInt ∧ a1.toInt ≤ 59) (a2 : Int32) (a3 : Int32) (ha3 : -1 ≤ a3.toInt ∧ a3.toInt ≤ 39) (H : mzH) (hI : gI SX H) (hJ : JX H) : gCall 32 [.ref 43, .int a1, .int a2, .int a3] H (gRi (fun v H' => gI SX H' ∧ JX H' ∧ fZ H' 1 1 = fZ H 1 1 ∧ kpX H H')) := by
  obtain ⟨k1_1, ek1_1⟩ : ∃ z, z = fZ H 1 1 := ⟨_, rfl⟩
  have ik1_1 : k1_1.toInt = (fZ H 1 1).toInt := by rw [← ek1_1]
  have bk1_1 : 0 ≤ k1_1.toInt ∧ k1_1.toInt ≤ 900 := by rw [ek1_1]; exact fZ_of hI sx_1 rfl
  have mkfr : kpX H H := kpX_r
  refine gG_call [(0, .ref 43), (1, .int a1), (2, .int a2), (3, .int a3)] ⟨rfl, rfl, rfl, rfl, trivial⟩ ?_
  show gG 4 zB_32 (mzBlk zB_32 0) [(0, .ref 43), (1, .int a1), (2, .int a2), (3, .int a3)] [] H 0 0 _
  refine g_aload_n rfl ?_
  refine g_gfr hI sx_43 rfl ?_
  refine g_aload_n rfl ?_
  refine g_gfr hI sx_43 rfl ?_
  refine g_invvv hI sx_51 rfl rfl rfl rfl (s_24 51 zCo_51 3 zBo_3 H hI hJ) (fun H65 r66 => ?_)
  obtain ⟨hIH65, hJH65, w67, m68⟩ := r66
  have e69 : k1_1 = fZ H65 1 1 := ek1_1.trans w67.symm
  have m70 : kpX H H65 := kpX_t mkfr (kpX_N (by decide) m68)
  refine g_aload_n rfl ?_
  refine g_gfr hIH65 sx_43 rfl ?_
  refine g_gfr hIH65 sx_51 rfl ?_
  refine g_iload_n rfl ?_
  refine g_iload_n rfl ?_
  refine g_iastore hIH65 sx_52 (by first | with_reducible assumption | omega) (gz_any _) (fun H71 eH71 hIH71 => ?_)
  have hJH71 : JX H71 := JX_sA (by first | with_reducible assumption | omega) eH71 hJH65
  have e72 : k1_1 = fZ H71 1 1 := by rw [eH71, fZ_sA]; exact e69
  have m73 : kpX H H71 := kpX_A m70 eH71 (by first | with_reducible assumption | omega)
  refine g_aload_n rfl ?_
  refine g_iload_n rfl ?_
  refine g_invvi hIH71 sx_43 rfl rfl rfl rfl (s_34 a3 (by first | with_reducible assumption | omega) H71 hIH71 hJH71) (fun v76 H74 r75 => ?_)
  obtain ⟨hIH74, hJH74, w77, m78⟩ := r75
  have e79 : k1_1 = fZ H74 1 1 := e72.trans w77.symm
  have m80 : kpX H H74 := kpX_t m73 m78
  exact g_iret ⟨_, rfl, hIH74, hJH74, (e79.symm.trans ek1_1), m80⟩
set_option maxRecDepth 4000 in
set_option maxHeartbeats 4000000 in
/-- X3.outcomeSwapped -/
theorem s_33 (a1 : Int32) (ha1 : 0 ≤ a1.toInt ∧ a1.toInt ≤ 59) (a2 : Int32) (ha2 : 0 ≤ a2.toInt ∧ a2.toInt ≤ 59) (a3 : Int32) (ha3 : -1 ≤ a3.toInt ∧ a3.toInt ≤ 39) (H : mzH) (hI : gI SX H) (hJ : JX H) : gCall 33 [.ref 43, .int a1, .int a2, .int a3] H (gRi (fun v H' => gI SX H' ∧ JX H' ∧ fZ H' 1 1 = fZ H 1 1 ∧ kpX H H')) := by
  obtain ⟨k1_1, ek1_1⟩ : ∃ z, z = fZ H 1 1 := ⟨_, rfl⟩
  have ik1_1 : k1_1.toInt = (fZ H 1 1).toInt := by rw [← ek1_1]
  have bk1_1 : 0 ≤ k1_1.toInt ∧ k1_1.toInt ≤ 900 := by rw [ek1_1]; exact fZ_of hI sx_1 rfl
  have mkfr : kpX H H := kpX_r
  refine gG_call [(0, .ref 43), (1, .int a1), (2, .int a2), (3, .int a3)] ⟨rfl, rfl, rfl, rfl, trivial⟩ ?_
  show gG 4 zB_33 (mzBlk zB_33 0) [(0, .ref 43), (1, .int a1), (2, .int a2), (3, .int a3)] [] H 0 0 _
  refine g_aload_n rfl ?_
  refine g_gfr hI sx_43 rfl ?_
  refine g_aload_n rfl ?_
  refine g_gfr hI sx_43 rfl ?_
  refine g_invvv hI sx_51 rfl rfl rfl rfl (s_24 51 zCo_51 3 zBo_3 H hI hJ) (fun H85 r86 => ?_)
  obtain ⟨hIH85, hJH85, w87, m88⟩ := r86
  have e89 : k1_1 = fZ H85 1 1 := ek1_1.trans w87.symm
  have m90 : kpX H H85 := kpX_t mkfr (kpX_N (by decide) m88)
  refine g_aload_n rfl ?_
  refine g_gfr hIH85 sx_43 rfl ?_
  refine g_gfr hIH85 sx_51 rfl ?_
  refine g_iload_n rfl ?_
  refine g_aload_n rfl ?_
  refine g_gfr hIH85 sx_43 rfl ?_
  refine g_gfr hIH85 sx_3 rfl ?_
  refine g_iload_n rfl ?_
  refine g_iaload hIH85 sx_6 rfl (by first | with_reducible assumption | omega) (fun v91 ev91 lv91 uv91 => ?_)
  refine g_iastore hIH85 sx_52 (by first | with_reducible assumption | omega) (gz_any _) (fun H92 eH92 hIH92 => ?_)
  have hJH92 : JX H92 := JX_sA (by first | with_reducible assumption | omega) eH92 hJH85
  have e93 : k1_1 = fZ H92 1 1 := by rw [eH92, fZ_sA]; exact e89
  have m94 : kpX H H92 := kpX_A m90 eH92 (by first | with_reducible assumption | omega)
  refine g_aload_n rfl ?_
  refine g_gfr hIH92 sx_43 rfl ?_
  refine g_gfr hIH92 sx_51 rfl ?_
  refine g_iload_n rfl ?_
  refine g_aload_n rfl ?_
  refine g_gfr hIH92 sx_43 rfl ?_
  refine g_gfr hIH92 sx_3 rfl ?_
  refine g_iload_n rfl ?_
  refine g_iaload hIH92 sx_6 rfl (by first | with_reducible assumption | omega) (fun v95 ev95 lv95 uv95 => ?_)
  refine g_iastore hIH92 sx_52 (by first | with_reducible assumption | omega) (gz_any _) (fun H96 eH96 hIH96 => ?_)
  have hJH96 : JX H96 := JX_sA (by first | with_reducible assumption | omega) eH96 hJH92
  have e97 : k1_1 = fZ H96 1 1 := by rw [eH96, fZ_sA]; exact e93
  have m98 : kpX H H96 := kpX_A m94 eH96 (by first | with_reducible assumption | omega)
  refine g_aload_n rfl ?_
  refine g_iload_n rfl ?_
  refine g_invvi hIH96 sx_43 rfl rfl rfl rfl (s_34 a3 (by first | with_reducible assumption | omega) H96 hIH96 hJH96) (fun v101 H99 r100 => ?_)
  obtain ⟨hIH99, hJH99, w102, m103⟩ := r100
  have e104 : k1_1 = fZ H99 1 1 := e97.trans w102.symm
  have m105 : kpX H H99 := kpX_t m98 m103
  exact g_iret ⟨_, rfl, hIH99, hJH99, (e104.symm.trans ek1_1), m105⟩
