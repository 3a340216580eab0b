set_option maxRecDepth 4000 in
set_option maxHeartbeats 4000000 in
/-- X1.hasPlace -/
theorem s_11 (b : Nat) (hb : zBo b) (a1 : Int32) (H : mzH) (hI : gI SX H) (hJ : JX H) : gCall 11 [.ref b, .int a1] H (gRi (fun v H' => H = H' ∧ (0 ≤ v.toInt ∧ v.toInt ≤ 1) ∧ (v.toInt = 0 ∨ (0 ≤ a1.toInt ∧ a1.toInt ≤ 7)))) := by
  obtain ⟨hbr, hb0, hb1, hb2, hb3, hb4, hb5, hb6, hb7⟩ := id hb
  refine gG_call [(0, .ref b), (1, .int a1)] ⟨rfl, rfl, trivial⟩ ?_
  show gG 2 zB_11 (mzBlk zB_11 0) [(0, .ref b), (1, .int a1)] [] H 0 0 _
  refine g_iload_n rfl ?_
  refine g_if_lt (fun c25 => ?_) (fun c25 => ?_)
  · refine g_iconst (by decide) (fun v26 kv26 => ?_)
    refine g_nop ?_
    exact g_zret (by first | with_reducible assumption | omega) ⟨_, rfl, rfl, (by first | with_reducible assumption | omega), (by first | with_reducible assumption | omega)⟩
  · refine g_iload_n rfl ?_
    refine g_aload_n rfl ?_
    refine g_gfi hI hb0 rfl (fun v27 ev27 lv27 uv27 => ?_)
    refine g_if2_ge (fun c28 => ?_) (fun c28 => ?_)
    · refine g_iconst (by decide) (fun v29 kv29 => ?_)
      refine g_nop ?_
      exact g_zret (by first | with_reducible assumption | omega) ⟨_, rfl, rfl, (by first | with_reducible assumption | omega), (by first | with_reducible assumption | omega)⟩
    · refine g_iconst (by decide) (fun v30 kv30 => ?_)
      refine g_goto ?_
      exact g_zret (by first | with_reducible assumption | omega) ⟨_, rfl, rfl, (by first | with_reducible assumption | omega), (by first | with_reducible assumption | omega)⟩
set_option maxRecDepth 4000 in
set_option maxHeartbeats 4000000 in
/-- X1.hasMessage -/
theorem s_12 (b : Nat) (hb : zBo b) (a1 : Int32) (H : mzH) (hI : gI SX H) (hJ : JX H) : gCall 12 [.ref b, .int a1] H (gRi (fun v H' => H = H' ∧ (0 ≤ v.toInt ∧ v.toInt ≤ 1) ∧ (v.toInt = 0 ∨ (0 ≤ a1.toInt ∧ a1.toInt ≤ 59)))) := by
  obtain ⟨hbr, hb0, hb1, hb2, hb3, hb4, hb5, hb6, hb7⟩ := id hb
  refine gG_call [(0, .ref b), (1, .int a1)] ⟨rfl, rfl, trivial⟩ ?_
  show gG 2 zB_12 (mzBlk zB_12 0) [(0, .ref b), (1, .int a1)] [] H 0 0 _
  refine g_iload_n rfl ?_
  refine g_if_lt (fun c25 => ?_) (fun c25 => ?_)
  · refine g_iconst (by decide) (fun v26 kv26 => ?_)
    refine g_nop ?_
    exact g_zret (by first | with_reducible assumption | omega) ⟨_, rfl, rfl, (by first | with_reducible assumption | omega), (by first | with_reducible assumption | omega)⟩
  · refine g_iload_n rfl ?_
    refine g_aload_n rfl ?_
    refine g_gfi hI hb0 rfl (fun v27 ev27 lv27 uv27 => ?_)
    refine g_if2_ge (fun c28 => ?_) (fun c28 => ?_)
    · refine g_iconst (by decide) (fun v29 kv29 => ?_)
      refine g_nop ?_
      exact g_zret (by first | with_reducible assumption | omega) ⟨_, rfl, rfl, (by first | with_reducible assumption | omega), (by first | with_reducible assumption | omega)⟩
    · refine g_iconst (by decide) (fun v30 kv30 => ?_)
      refine g_goto ?_
      exact g_zret (by first | with_reducible assumption | omega) ⟨_, rfl, rfl, (by first | with_reducible assumption | omega), (by first | with_reducible assumption | omega)⟩
set_option maxRecDepth 4000 in
set_option maxHeartbeats 4000000 in
/-- X1.isLate -/
theorem s_20 (b : Nat) (hb : zBo b) (a1 : Int32) (ha1 : 0 ≤ a1.toInt ∧ a1.toInt ≤ 59) (H : mzH) (hI : gI SX H) (hJ : JX H) : gCall 20 [.ref b, .int a1] H (gRi (fun v H' => H = H' ∧ (0 ≤ v.toInt ∧ v.toInt ≤ 1))) := by
  obtain ⟨hbr, hb0, hb1, hb2, hb3, hb4, hb5, hb6, hb7⟩ := id hb
  refine gG_call [(0, .ref b), (1, .int a1)] ⟨rfl, rfl, trivial⟩ ?_
  show gG 3 zB_20 (mzBlk zB_20 0) [(0, .ref b), (1, .int a1)] [] H 0 0 _
  refine g_iconst (by decide) (fun v161 kv161 => ?_)
  refine g_istore_n (l' := [(0, .ref b), (1, .int a1), (2, .int v161)]) rfl rfl ?_
  refine g_nop ?_
  have L163 : ∀ (N : Nat) (v162 : Int32), (0 ≤ v162.toInt ∧ v162.toInt ≤ 59) → (59 - v162.toInt).toNat < N → gG 3 zB_20 (mzBlk zB_20 1) [(0, .ref b), (1, .int a1), (2, .int v162)] [] H 0 0 (gRi (fun v H' => H = H' ∧ (0 ≤ v.toInt ∧ v.toInt ≤ 1))) := by
    intro N
    induction N with
    | zero => intro v162 bv162 hmL163; exact absurd hmL163 (Nat.not_lt_zero _)
    | succ N ihL163 =>
      intro v162 bv162 hmL163
      refine g_iload_n rfl ?_
      refine g_iload_n rfl ?_
      refine g_if2_ge (fun c164 => ?_) (fun c164 => ?_)
      · refine g_iconst (by decide) (fun v165 kv165 => ?_)
        exact g_zret (by first | with_reducible assumption | omega) ⟨_, rfl, rfl, (by first | with_reducible assumption | omega)⟩
      · refine g_iload_n rfl ?_
        refine g_aload_n rfl ?_
        refine g_gfi hI hb0 rfl (fun v166 ev166 lv166 uv166 => ?_)
        refine g_if2_ge (fun c167 => ?_) (fun c167 => ?_)
        · refine g_iconst (by decide) (fun v168 kv168 => ?_)
          exact g_zret (by first | with_reducible assumption | omega) ⟨_, rfl, rfl, (by first | with_reducible assumption | omega)⟩
        · refine g_aload_n rfl ?_
          refine g_gfr hI hb0 rfl ?_
          refine g_iload_n rfl ?_
          refine g_iaload hI hb3 rfl (by first | with_reducible assumption | omega) (fun v169 ev169 lv169 uv169 => ?_)
          refine g_aload_n rfl ?_
          refine g_gfr hI hb0 rfl ?_
          refine g_iload_n rfl ?_
          refine g_iaload hI hb3 rfl (by first | with_reducible assumption | omega) (fun v170 ev170 lv170 uv170 => ?_)
          refine g_if2_le (fun c171 => ?_) (fun c171 => ?_)
          · refine g_iinc (l' := (fun v172 => [(0, .ref b), (1, .int a1), (2, .int v172)])) rfl rfl (by decide) (by first | with_reducible assumption | omega) (fun _ => rfl) (fun v172 ev172 => ?_)
            refine g_goto ?_
            exact ihL163 v172 (by first | with_reducible assumption | omega) (by first | with_reducible assumption | omega)
          · refine g_iconst (by decide) (fun v173 kv173 => ?_)
            exact g_zret (by first | with_reducible assumption | omega) ⟨_, rfl, rfl, (by first | with_reducible assumption | omega)⟩
  exact L163 _ v161 (by first | with_reducible assumption | omega) (Nat.lt_succ_self _)
set_option maxRecDepth 4000 in
set_option maxHeartbeats 4000000 in
/-- X1.lateOnes -/
theorem s_21 (b : Nat) (hb : zBo b) (H : mzH) (hI : gI SX H) (hJ : JX H) : gCall 21 [.ref b] H (gRi (fun v H' => H = H')) := by
  obtain ⟨hbr, hb0, hb1, hb2, hb3, hb4, hb5, hb6, hb7⟩ := id hb
  refine gG_call [(0, .ref b)] ⟨rfl, trivial⟩ ?_
  show gG 3 zB_21 (mzBlk zB_21 0) [(0, .ref b)] [] H 0 0 _
  refine g_iconst (by decide) (fun v429 kv429 => ?_)
  refine g_istore_n (l' := [(0, .ref b), (1, .int v429)]) rfl rfl ?_
  refine g_iconst (by decide) (fun v430 kv430 => ?_)
  refine g_istore_n (l' := [(0, .ref b), (1, .int v429), (2, .int v430)]) rfl rfl ?_
  refine g_nop ?_
  have L433 : ∀ (N : Nat) (v431 : Int32) (v432 : Int32), (0 ≤ v432.toInt ∧ v432.toInt ≤ 60) → (60 - v432.toInt).toNat < N → gG 3 zB_21 (mzBlk zB_21 1) [(0, .ref b), (1, .int v431), (2, .int v432)] [] H 0 0 (gRi (fun v H' => H = H')) := by
    intro N
    induction N with
    | zero => intro v431 v432 bv432 hmL433; exact absurd hmL433 (Nat.not_lt_zero _)
    | succ N ihL433 =>
      intro v431 v432 bv432 hmL433
      refine g_iload_n rfl ?_
      refine g_aload_n rfl ?_
      refine g_gfi hI hb0 rfl (fun v434 ev434 lv434 uv434 => ?_)
      refine g_if2_ge (fun c435 => ?_) (fun c435 => ?_)
      · refine g_iload_n rfl ?_
        exact g_iret ⟨_, rfl, rfl⟩
      · refine g_iload_n rfl ?_
        refine g_aload_n rfl ?_
        refine g_iload_n rfl ?_
        refine g_invvi hI hb0 rfl rfl rfl rfl (s_20 b hb v432 (by first | with_reducible assumption | omega) H hI hJ) (fun v438 H436 r437 => ?_)
        obtain ⟨rfl, bv438⟩ := r437
        refine g_if_eq (fun c439 => ?_) (fun c439 => ?_)
        · refine g_iconst (by decide) (fun v440 kv440 => ?_)
          refine g_nop ?_
          refine g_iadd (by have := gz_any v431; omega) (fun v441 ev441 => ?_)
          refine g_istore_n (l' := [(0, .ref b), (1, .int v441), (2, .int v432)]) rfl rfl ?_
          refine g_iinc (l' := (fun v442 => [(0, .ref b), (1, .int v441), (2, .int v442)])) rfl rfl (by decide) (by first | with_reducible assumption | omega) (fun _ => rfl) (fun v442 ev442 => ?_)
          refine g_goto ?_
          exact ihL433 v441 v442 (by first | with_reducible assumption | omega) (by first | with_reducible assumption | omega)
        · refine g_iconst (by decide) (fun v443 kv443 => ?_)
          refine g_goto ?_
          refine g_iadd' (fun v444 ov444 => ?_)
          refine g_istore_n (l' := [(0, .ref b), (1, .int v444), (2, .int v432)]) rfl rfl ?_
          refine g_iinc (l' := (fun v445 => [(0, .ref b), (1, .int v444), (2, .int v445)])) rfl rfl (by decide) (by first | with_reducible assumption | omega) (fun _ => rfl) (fun v445 ev445 => ?_)
          refine g_goto ?_
          exact ihL433 v444 v445 (by first | with_reducible assumption | omega) (by first | with_reducible assumption | omega)
  exact L433 _ v429 v430 (by first | with_reducible assumption | omega) (Nat.lt_succ_self _)
set_option maxRecDepth 4000 in
set_option maxHeartbeats 4000000 in
/-- X1.latestHour -/
theorem s_22 (b : Nat) (hb : zBo b) (H : mzH) (hI : gI SX H) (hJ : JX H) : gCall 22 [.ref b] H (gRi (fun v H' => H = H')) := by
  obtain ⟨hbr, hb0, hb1, hb2, hb3, hb4, hb5, hb6, hb7⟩ := id hb
  refine gG_call [(0, .ref b)] ⟨rfl, trivial⟩ ?_
  show gG 3 zB_22 (mzBlk zB_22 0) [(0, .ref b)] [] H 0 0 _
  refine g_iconst (by decide) (fun v107 kv107 => ?_)
  refine g_istore_n (l' := [(0, .ref b), (1, .int v107)]) rfl rfl ?_
  refine g_iconst (by decide) (fun v108 kv108 => ?_)
  refine g_istore_n (l' := [(0, .ref b), (1, .int v107), (2, .int v108)]) rfl rfl ?_
  refine g_nop ?_
  have L111 : ∀ (N : Nat) (v109 : Int32) (v110 : Int32), (0 ≤ v109.toInt ∧ v109.toInt ≤ 2147483647) → (0 ≤ v110.toInt ∧ v110.toInt ≤ 60) → (60 - v110.toInt).toNat < N → gG 3 zB_22 (mzBlk zB_22 1) [(0, .ref b), (1, .int v109), (2, .int v110)] [] H 0 0 (gRi (fun v H' => H = H')) := by
    intro N
    induction N with
    | zero => intro v109 v110 bv109 bv110 hmL111; exact absurd hmL111 (Nat.not_lt_zero _)
    | succ N ihL111 =>
      intro v109 v110 bv109 bv110 hmL111
      refine g_iload_n rfl ?_
      refine g_aload_n rfl ?_
      refine g_gfi hI hb0 rfl (fun v112 ev112 lv112 uv112 => ?_)
      refine g_if2_ge (fun c113 => ?_) (fun c113 => ?_)
      · refine g_iload_n rfl ?_
        exact g_iret ⟨_, rfl, rfl⟩
      · refine g_iload_n rfl ?_
        refine g_aload_n rfl ?_
        refine g_gfr hI hb0 rfl ?_
        refine g_iload_n rfl ?_
        refine g_iaload hI hb3 rfl (by first | with_reducible assumption | omega) (fun v114 ev114 lv114 uv114 => ?_)
        refine g_max rfl (fun v115 av115 bv115 dv115 => ?_)
        refine g_istore_n (l' := [(0, .ref b), (1, .int v115), (2, .int v110)]) rfl rfl ?_
        refine g_iinc (l' := (fun v116 => [(0, .ref b), (1, .int v115), (2, .int v116)])) rfl rfl (by decide) (by first | with_reducible assumption | omega) (fun _ => rfl) (fun v116 ev116 => ?_)
        refine g_goto ?_
        exact ihL111 v115 v116 (by have := gz_any v115; omega) (by first | with_reducible assumption | omega) (by first | with_reducible assumption | omega)
  exact L111 _ v107 v108 (by have := gz_any v107; omega) (by first | with_reducible assumption | omega) (Nat.lt_succ_self _)
set_option maxRecDepth 4000 in
set_option maxHeartbeats 4000000 in
/-- X2.takeHours -/
theorem s_24 (c : Nat) (hc : zCo c) (b : Nat) (hb : zBo b) (H : mzH) (hI : gI SX H) (hJ : JX H) : gCall 24 [.ref c, .ref b] H (gRv (fun H' => gI SX H' ∧ JX H' ∧ fZ H' 1 1 = fZ H 1 1 ∧ kpN c (c + 2) H H')) := by
  obtain ⟨hcr, hc0, hc1, hc2⟩ := id hc
  obtain ⟨hbr, hb0, hb1, hb2, hb3, hb4, hb5, hb6, hb7⟩ := id hb
  obtain ⟨k1_1, ek1_1⟩ : ∃ z, z = fZ H 1 1 := ⟨_, rfl⟩
  have ik1_1 : k1_1.toInt = (fZ H 1 1).toInt := by rw [← ek1_1]
  have bk1_1 : 0 ≤ k1_1.toInt ∧ k1_1.toInt ≤ 900 := by rw [ek1_1]; exact fZ_of hI sx_1 rfl
  have mkfr : kpN c (c + 2) H H := kpN_r
  refine gG_call [(0, .ref c), (1, .ref b)] ⟨rfl, rfl, trivial⟩ ?_
  show gG 2 zB_24 (mzBlk zB_24 0) [(0, .ref c), (1, .ref b)] [] H 0 0 _
  refine g_aload_n rfl ?_
  refine g_aload_n rfl ?_
  refine g_gfi hI hb0 rfl (fun v41 ev41 lv41 uv41 => ?_)
  refine g_pfi hI hc0 rfl (by first | with_reducible assumption | omega) (fun H42 eH42 hIH42 => ?_)
  have hJH42 : JX H42 := JX_sF eH42 hJ
  have e43 : k1_1 = fZ H42 1 1 := by rw [eH42, fZ_sF_nc (by first | with_reducible assumption | omega)]; exact ek1_1
  have m44 : kpN c (c + 2) H H42 := kpN_F mkfr eH42 (by first | with_reducible assumption | omega)
  refine g_aload_n rfl ?_
  refine g_gfr hIH42 hb0 rfl ?_
  refine g_iconst (by decide) (fun v45 kv45 => ?_)
  refine g_aload_n rfl ?_
  refine g_gfr hIH42 hc0 rfl ?_
  refine g_iconst (by decide) (fun v46 kv46 => ?_)
  refine g_bipush (by decide) (fun v47 kv47 => ?_)
  refine g_acp hIH42 hc1 hb3 (by decide) (by decide) (by first | with_reducible assumption | omega) (by first | with_reducible assumption | omega) (by first | with_reducible assumption | omega) rfl (fun H48 eH48 hIH48 => ?_)
  have hJH48 : JX H48 := JX_sC (by first | with_reducible assumption | omega) eH48 hJH42
  have e49 : k1_1 = fZ H48 1 1 := by rw [eH48, fZ_sC hIH42 hc1 hb3]; exact e43
  have m50 : kpN c (c + 2) H H48 := kpN_C hIH42 hc1 hb3 m44 eH48 (by first | with_reducible assumption | omega)
  exact g_ret ⟨rfl, hIH48, hJH48, (e49.symm.trans ek1_1), m50⟩
set_option maxRecDepth 4000 in
set_option maxHeartbeats 4000000 in
/-- X2.arrange -/
theorem s_25 (c : Nat) (hc : zCo c) (H : mzH) (hI : gI SX H) (hJ : JX H) : gCall 25 [.ref c] H (gRv (fun H' => gI SX H' ∧ JX H' ∧ fZ H' 1 1 = fZ H 1 1 ∧ kpN c (c + 2) H H')) := by
  obtain ⟨hcr, hc0, hc1, hc2⟩ := id hc
  obtain ⟨k1_1, ek1_1⟩ : ∃ z, z = fZ H 1 1 := ⟨_, rfl⟩
  have ik1_1 : k1_1.toInt = (fZ H 1 1).toInt := by rw [← ek1_1]
  have bk1_1 : 0 ≤ k1_1.toInt ∧ k1_1.toInt ≤ 900 := by rw [ek1_1]; exact fZ_of hI sx_1 rfl
  have mkfr : kpN c (c + 2) H H := kpN_r
  refine gG_call [(0, .ref c)] ⟨rfl, trivial⟩ ?_
  show gG 3 zB_25 (mzBlk zB_25 0) [(0, .ref c)] [] H 0 0 _
  refine g_iconst (by decide) (fun v305 kv305 => ?_)
  refine g_istore_n (l' := [(0, .ref c), (1, .int v305)]) rfl rfl ?_
  refine g_nop ?_
  have L310 : ∀ (N : Nat) (v306 : Int32) (H307 : mzH), gI SX H307 → JX H307 → k1_1 = fZ H307 1 1 → kpN c (c + 2) H H307 → (0 ≤ v306.toInt ∧ v306.toInt ≤ 60) → (60 - v306.toInt).toNat < N → gG 3 zB_25 (mzBlk zB_25 1) [(0, .ref c), (1, .int v306)] [] H307 0 0 (gRv (fun H' => gI SX H' ∧ JX H' ∧ fZ H' 1 1 = fZ H 1 1 ∧ kpN c (c + 2) H H')) := by
    intro N
    induction N with
    | zero => intro v306 H307 hIH307 hJH307 e308 m309 bv306 hmL310; exact absurd hmL310 (Nat.not_lt_zero _)
    | succ N ihL310 =>
      intro v306 H307 hIH307 hJH307 e308 m309 bv306 hmL310
      refine g_iload_n rfl ?_
      refine g_aload_n rfl ?_
      refine g_gfi hIH307 hc0 rfl (fun v311 ev311 lv311 uv311 => ?_)
      refine g_if2_ge (fun c312 => ?_) (fun c312 => ?_)
      · exact g_ret ⟨rfl, hIH307, hJH307, (e308.symm.trans ek1_1), m309⟩
      · refine g_iload_n rfl ?_
        refine g_istore_n (l' := [(0, .ref c), (1, .int v306), (2, .int v306)]) rfl rfl ?_
        refine g_nop ?_
        have L317 : ∀ (N : Nat) (v313 : Int32) (H314 : mzH), gI SX H314 → JX H314 → k1_1 = fZ H314 1 1 → kpN c (c + 2) H H314 → (0 ≤ v313.toInt ∧ v313.toInt ≤ 59) → (v313.toInt - (0)).toNat < N → gG 3 zB_25 (mzBlk zB_25 2) [(0, .ref c), (1, .int v306), (2, .int v313)] [] H314 0 0 (gRv (fun H' => gI SX H' ∧ JX H' ∧ fZ H' 1 1 = fZ H 1 1 ∧ kpN c (c + 2) H H')) := by
          intro N
          induction N with
          | zero => intro v313 H314 hIH314 hJH314 e315 m316 bv313 hmL317; exact absurd hmL317 (Nat.not_lt_zero _)
          | succ N ihL317 =>
            intro v313 H314 hIH314 hJH314 e315 m316 bv313 hmL317
            refine g_iload_n rfl ?_
            refine g_if_le (fun c318 => ?_) (fun c318 => ?_)
            · refine g_aload_n rfl ?_
              refine g_gfr hIH314 hc0 rfl ?_
              refine g_iload_n rfl ?_
              refine g_iload_n rfl ?_
              refine g_iastore hIH314 hc2 (by first | with_reducible assumption | omega) (by first | with_reducible assumption | omega) (fun H319 eH319 hIH319 => ?_)
              have hJH319 : JX H319 := JX_sA (by first | with_reducible assumption | omega) eH319 hJH314
              have e320 : k1_1 = fZ H319 1 1 := by rw [eH319, fZ_sA]; exact e315
              have m321 : kpN c (c + 2) H H319 := kpN_A m316 eH319 (by first | with_reducible assumption | omega)
              refine g_iinc (l' := (fun v322 => [(0, .ref c), (1, .int v322), (2, .int v313)])) rfl rfl (by decide) (by first | with_reducible assumption | omega) (fun _ => rfl) (fun v322 ev322 => ?_)
              refine g_goto ?_
              refine gG_pick [0, 1] (l' := [(0, .ref c), (1, .int v322)]) rfl ?_
              exact ihL310 v322 H319 hIH319 hJH319 e320 m321 (by first | with_reducible assumption | omega) (by first | with_reducible assumption | omega)
            · refine g_aload_n rfl ?_
              refine g_gfr hIH314 hc0 rfl ?_
              refine g_aload_n rfl ?_
              refine g_gfr hIH314 hc0 rfl ?_
              refine g_iload_n rfl ?_
              refine g_iconst (by decide) (fun v323 kv323 => ?_)
              refine g_isub (by first | with_reducible assumption | omega) (fun v324 ev324 => ?_)
              refine g_iaload hIH314 hc2 rfl (by first | with_reducible assumption | omega) (fun v325 ev325 lv325 uv325 => ?_)
              refine g_iaload hIH314 hc1 rfl (by first | with_reducible assumption | omega) (fun v326 ev326 lv326 uv326 => ?_)
              refine g_aload_n rfl ?_
              refine g_gfr hIH314 hc0 rfl ?_
              refine g_iload_n rfl ?_
              refine g_iaload hIH314 hc1 rfl (by first | with_reducible assumption | omega) (fun v327 ev327 lv327 uv327 => ?_)
              refine g_if2_le (fun c328 => ?_) (fun c328 => ?_)
              · refine g_aload_n rfl ?_
                refine g_gfr hIH314 hc0 rfl ?_
                refine g_iload_n rfl ?_
                refine g_iload_n rfl ?_
                refine g_iastore hIH314 hc2 (by first | with_reducible assumption | omega) (by first | with_reducible assumption | omega) (fun H329 eH329 hIH329 => ?_)
                have hJH329 : JX H329 := JX_sA (by first | with_reducible assumption | omega) eH329 hJH314
                have e330 : k1_1 = fZ H329 1 1 := by rw [eH329, fZ_sA]; exact e315
                have m331 : kpN c (c + 2) H H329 := kpN_A m316 eH329 (by first | with_reducible assumption | omega)
                refine g_iinc (l' := (fun v332 => [(0, .ref c), (1, .int v332), (2, .int v313)])) rfl rfl (by decide) (by first | with_reducible assumption | omega) (fun _ => rfl) (fun v332 ev332 => ?_)
                refine g_goto ?_
                refine gG_pick [0, 1] (l' := [(0, .ref c), (1, .int v332)]) rfl ?_
                exact ihL310 v332 H329 hIH329 hJH329 e330 m331 (by first | with_reducible assumption | omega) (by first | with_reducible assumption | omega)
              · refine g_aload_n rfl ?_
                refine g_gfr hIH314 hc0 rfl ?_
                refine g_iload_n rfl ?_
                refine g_aload_n rfl ?_
                refine g_gfr hIH314 hc0 rfl ?_
                refine g_iload_n rfl ?_
                refine g_iconst (by decide) (fun v333 kv333 => ?_)
                refine g_isub (by first | with_reducible assumption | omega) (fun v334 ev334 => ?_)
                refine g_iaload hIH314 hc2 rfl (by first | with_reducible assumption | omega) (fun v335 ev335 lv335 uv335 => ?_)
                refine g_iastore hIH314 hc2 (by first | with_reducible assumption | omega) (by first | with_reducible assumption | omega) (fun H336 eH336 hIH336 => ?_)
                have hJH336 : JX H336 := JX_sA (by first | with_reducible assumption | omega) eH336 hJH314
                have e337 : k1_1 = fZ H336 1 1 := by rw [eH336, fZ_sA]; exact e315
                have m338 : kpN c (c + 2) H H336 := kpN_A m316 eH336 (by first | with_reducible assumption | omega)
                refine g_iinc (l' := (fun v339 => [(0, .ref c), (1, .int v306), (2, .int v339)])) rfl rfl (by decide) (by first | with_reducible assumption | omega) (fun _ => rfl) (fun v339 ev339 => ?_)
                refine g_goto ?_
                exact ihL317 v339 H336 hIH336 hJH336 e337 m338 (by first | with_reducible assumption | omega) (by first | with_reducible assumption | omega)
        exact L317 _ v306 H307 hIH307 hJH307 e308 m309 (by first | with_reducible assumption | omega) (Nat.lt_succ_self _)
  exact L310 _ v305 H hI hJ ek1_1 mkfr (by first | with_reducible assumption | omega) (Nat.lt_succ_self _)
set_option maxRecDepth 4000 in
set_option maxHeartbeats 4000000 in
/-- X2.spotOf -/
theorem s_26 (c : Nat) (hc : zCo c) (a1 : Int32) (H : mzH) (hI : gI SX H) (hJ : JX H) : gCall 26 [.ref c, .int a1] H (gRi (fun v H' => H = H' ∧ (-1 ≤ v.toInt ∧ v.toInt ≤ 59))) := by
  obtain ⟨hcr, hc0, hc1, hc2⟩ := id hc
  refine gG_call [(0, .ref c), (1, .int a1)] ⟨rfl, rfl, trivial⟩ ?_
  show gG 3 zB_26 (mzBlk zB_26 0) [(0, .ref c), (1, .int a1)] [] H 0 0 _
  refine g_iconst (by decide) (fun v117 kv117 => ?_)
  refine g_istore_n (l' := [(0, .ref c), (1, .int a1), (2, .int v117)]) rfl rfl ?_
  refine g_nop ?_
  have L119 : ∀ (N : Nat) (v118 : Int32), (0 ≤ v118.toInt ∧ v118.toInt ≤ 60) → (60 - v118.toInt).toNat < N → gG 3 zB_26 (mzBlk zB_26 1) [(0, .ref c), (1, .int a1), (2, .int v118)] [] H 0 0 (gRi (fun v H' => H = H' ∧ (-1 ≤ v.toInt ∧ v.toInt ≤ 59))) := by
    intro N
    induction N with
    | zero => intro v118 bv118 hmL119; exact absurd hmL119 (Nat.not_lt_zero _)
    | succ N ihL119 =>
      intro v118 bv118 hmL119
      refine g_iload_n rfl ?_
      refine g_aload_n rfl ?_
      refine g_gfi hI hc0 rfl (fun v120 ev120 lv120 uv120 => ?_)
      refine g_if2_ge (fun c121 => ?_) (fun c121 => ?_)
      · refine g_iconst (by decide) (fun v122 kv122 => ?_)
        exact g_iret ⟨_, rfl, rfl, (by first | with_reducible assumption | omega)⟩
      · refine g_aload_n rfl ?_
        refine g_gfr hI hc0 rfl ?_
        refine g_iload_n rfl ?_
        refine g_iaload hI hc2 rfl (by first | with_reducible assumption | omega) (fun v123 ev123 lv123 uv123 => ?_)
        refine g_iload_n rfl ?_
        refine g_if2_ne (fun c124 => ?_) (fun c124 => ?_)
        · refine g_iinc (l' := (fun v125 => [(0, .ref c), (1, .int a1), (2, .int v125)])) rfl rfl (by decide) (by first | with_reducible assumption | omega) (fun _ => rfl) (fun v125 ev125 => ?_)
          refine g_goto ?_
          exact ihL119 v125 (by first | with_reducible assumption | omega) (by first | with_reducible assumption | omega)
        · refine g_iload_n rfl ?_
          exact g_iret ⟨_, rfl, rfl, (by first | with_reducible assumption | omega)⟩
  exact L119 _ v117 (by first | with_reducible assumption | omega) (Nat.lt_succ_self _)
set_option maxRecDepth 4000 in
set_option maxHeartbeats 4000000 in
/-- X3.lastVerdictWithout -/
theorem s_30 (a1 : Int32) (a2 : Int32) (H : mzH) (hI : gI SX H) (hJ : JX H) : gCall 30 [.ref 43, .int a1, .int a2] H (gRi (fun v H' => gI SX H' ∧ JX H' ∧ fZ H' 1 1 = fZ H 1 1 ∧ kpX H H')) := by
  obtain ⟨k1_1, ek1_1⟩ : ∃ z, z = fZ H 1 1 := ⟨_, rfl⟩
  have ik1_1 : k1_1.toInt = (fZ H 1 1).toInt := by rw [← ek1_1]
  have bk1_1 : 0 ≤ k1_1.toInt ∧ k1_1.toInt ≤ 900 := by rw [ek1_1]; exact fZ_of hI sx_1 rfl
  have mkfr : kpX H H := kpX_r
  refine gG_call [(0, .ref 43), (1, .int a1), (2, .int a2)] ⟨rfl, rfl, rfl, trivial⟩ ?_
  show gG 6 zB_30 (mzBlk zB_30 0) [(0, .ref 43), (1, .int a1), (2, .int a2)] [] H 0 0 _
  refine g_aload_n rfl ?_
  refine g_gfr hI sx_43 rfl ?_
  refine g_invvv hI sx_44 rfl rfl rfl rfl (s_83 44 zWo_44 H hI hJ) (fun H285 r286 => ?_)
  obtain ⟨hIH285, hJH285, w287, m288⟩ := r286
  have e289 : k1_1 = fZ H285 1 1 := ek1_1.trans w287.symm
  have m290 : kpX H H285 := kpX_t mkfr m288
  refine g_iconst (by decide) (fun v291 kv291 => ?_)
  refine g_istore_n (l' := [(0, .ref 43), (1, .int a1), (2, .int a2), (3, .int v291)]) rfl rfl ?_
  refine g_iconst (by decide) (fun v292 kv292 => ?_)
  refine g_istore (l' := [(0, .ref 43), (1, .int a1), (2, .int a2), (3, .int v291), (4, .int v292)]) rfl rfl ?_
  refine g_nop ?_
  have L298 : ∀ (N : Nat) (v293 : Int32) (v294 : Int32) (H295 : mzH), gI SX H295 → JX H295 → k1_1 = fZ H295 1 1 → kpX H H295 → (0 ≤ v294.toInt ∧ v294.toInt ≤ 60) → (60 - v294.toInt).toNat < N → gG 6 zB_30 (mzBlk zB_30 1) [(0, .ref 43), (1, .int a1), (2, .int a2), (3, .int v293), (4, .int v294)] [] H295 0 0 (gRi (fun v H' => gI SX H' ∧ JX H' ∧ fZ H' 1 1 = fZ H 1 1 ∧ kpX H H')) := by
    intro N
    induction N with
    | zero => intro v293 v294 H295 hIH295 hJH295 e296 m297 bv294 hmL298; exact absurd hmL298 (Nat.not_lt_zero _)
    | succ N ihL298 =>
      intro v293 v294 H295 hIH295 hJH295 e296 m297 bv294 hmL298
      refine g_iload rfl ?_
      refine g_iload_n rfl ?_
      refine g_if2_gt (fun c299 => ?_) (fun c299 => ?_)
      · refine g_iload_n rfl ?_
        exact g_iret ⟨_, rfl, hIH295, hJH295, (e296.symm.trans ek1_1), m297⟩
      · refine g_iload rfl ?_
        refine g_aload_n rfl ?_
        refine g_gfr hIH295 sx_43 rfl ?_
        refine g_gfr hIH295 sx_24 rfl ?_
        refine g_gfi hIH295 sx_25 rfl (fun v300 ev300 lv300 uv300 => ?_)
        refine g_if2_ge (fun c301 => ?_) (fun c301 => ?_)
        · refine g_iload_n rfl ?_
          exact g_iret ⟨_, rfl, hIH295, hJH295, (e296.symm.trans ek1_1), m297⟩
        · refine g_aload_n rfl ?_
          refine g_gfr hIH295 sx_43 rfl ?_
          refine g_gfr hIH295 sx_24 rfl ?_
          refine g_gfr hIH295 sx_25 rfl ?_
          refine g_iload rfl ?_
          refine g_iaload hIH295 sx_27 rfl (by first | with_reducible assumption | omega) (fun v302 ev302 lv302 uv302 => ?_)
          refine g_istore (l' := [(0, .ref 43), (1, .int a1), (2, .int a2), (3, .int v293), (4, .int v294), (5, .int v302)]) rfl rfl ?_
          refine g_iload rfl ?_
          refine g_iload_n rfl ?_
          refine g_if2_eq (fun c303 => ?_) (fun c303 => ?_)
          · refine g_iinc (l' := (fun v304 => [(0, .ref 43), (1, .int a1), (2, .int a2), (3, .int v293), (4, .int v304), (5, .int v302)])) rfl rfl (by decide) (by first | with_reducible assumption | omega) (fun _ => rfl) (fun v304 ev304 => ?_)
            refine g_goto ?_
            refine gG_pick [0, 1, 2, 3, 4] (l' := [(0, .ref 43), (1, .int a1), (2, .int a2), (3, .int v293), (4, .int v304)]) rfl ?_
            exact ihL298 v293 v304 H295 hIH295 hJH295 e296 m297 (by first | with_reducible assumption | omega) (by first | with_reducible assumption | omega)
          · refine g_aload_n rfl ?_
            refine g_gfr hIH295 sx_43 rfl ?_
            refine g_aload_n rfl ?_
            refine g_gfr hIH295 sx_43 rfl ?_
            refine g_iload rfl ?_
            refine g_aload_n rfl ?_
            refine g_gfr hIH295 sx_43 rfl ?_
            refine g_gfr hIH295 sx_3 rfl ?_
            refine g_iload rfl ?_
            refine g_iaload hIH295 sx_6 rfl (by first | with_reducible assumption | omega) (fun v305 ev305 lv305 uv305 => ?_)
            refine g_invvi hIH295 sx_44 rfl rfl rfl rfl (s_93 44 zWo_44 3 zBo_3 v302 (by first | with_reducible assumption | omega) v305 H295 hIH295 hJH295) (fun v308 H306 r307 => ?_)
            obtain ⟨hIH306, hJH306, w309, m310⟩ := r307
            have e311 : k1_1 = fZ H306 1 1 := e296.trans w309.symm
            have m312 : kpX H H306 := kpX_t m297 m310
            refine g_istore_n (l' := [(0, .ref 43), (1, .int a1), (2, .int a2), (3, .int v308), (4, .int v294), (5, .int v302)]) rfl rfl ?_
            refine g_nop ?_
            refine g_iinc (l' := (fun v313 => [(0, .ref 43), (1, .int a1), (2, .int a2), (3, .int v308), (4, .int v313), (5, .int v302)])) rfl rfl (by decide) (by first | with_reducible assumption | omega) (fun _ => rfl) (fun v313 ev313 => ?_)
            refine g_goto ?_
            refine gG_pick [0, 1, 2, 3, 4] (l' := [(0, .ref 43), (1, .int a1), (2, .int a2), (3, .int v308), (4, .int v313)]) rfl ?_
            exact ihL298 v308 v313 H306 hIH306 hJH306 e311 m312 (by first | with_reducible assumption | omega) (by first | with_reducible assumption | omega)
  exact L298 _ v291 v292 H285 hIH285 hJH285 e289 m290 (by first | with_reducible assumption | omega) (Nat.lt_succ_self _)
set_option maxRecDepth 4000 in
set_option maxHeartbeats 4000000 in
/-- X8.whereIs -/
theorem s_91 (w : Nat) (hw : zWo w) (a1 : Int32) (ha1 : 0 ≤ a1.toInt ∧ a1.toInt ≤ 39) (H : mzH) (hI : gI SX H) (hJ : JX H) : gCall 91 [.ref w, .int a1] H (gRi (fun v H' => H = H')) := by
  obtain ⟨hwr, hw0, hw1, hw2, hw3, hw4, hw5, hw6⟩ := id hw
  refine gG_call [(0, .ref w), (1, .int a1)] ⟨rfl, rfl, trivial⟩ ?_
  show gG 3 zB_91 (mzBlk zB_91 0) [(0, .ref w), (1, .int a1)] [] H 0 0 _
  refine g_aload_n rfl ?_
  refine g_iload_n rfl ?_
  refine g_invvi hI hw0 rfl rfl rfl rfl (s_88 w hw a1 (by first | with_reducible assumption | omega) H hI hJ) (fun v87 H85 r86 => ?_)
  obtain ⟨rfl, bv87⟩ := r86
  refine g_if_ne (fun c88 => ?_) (fun c88 => ?_)
  · refine g_aload_n rfl ?_
    refine g_iload_n rfl ?_
    refine g_iconst (by decide) (fun v89 kv89 => ?_)
    refine g_invvi hI hw0 rfl rfl rfl rfl (s_85 w hw a1 (by first | with_reducible assumption | omega) v89 H hI hJ) (fun v92 H90 r91 => ?_)
    obtain ⟨rfl, bv92⟩ := r91
    refine g_if_eq (fun c93 => ?_) (fun c93 => ?_)
    · refine g_aload_n rfl ?_
      refine g_iload_n rfl ?_
      refine g_invvi hI hw0 rfl rfl rfl rfl (s_89 w hw a1 (by first | with_reducible assumption | omega) H hI hJ) (fun v96 H94 r95 => ?_)
      obtain ⟨rfl, bv96⟩ := r95
      refine g_istore_n (l' := [(0, .ref w), (1, .int a1), (2, .int v96)]) rfl rfl ?_
      refine g_aload_n rfl ?_
      refine g_iload_n rfl ?_
      refine g_iconst (by decide) (fun v97 kv97 => ?_)
      refine g_invvi hI hw0 rfl rfl rfl rfl (s_85 w hw v96 (by first | with_reducible assumption | omega) v97 H hI hJ) (fun v100 H98 r99 => ?_)
      obtain ⟨rfl, bv100⟩ := r99
      refine g_if_eq (fun c101 => ?_) (fun c101 => ?_)
      · refine g_aload_n rfl ?_
        refine g_gfr hI hw0 rfl ?_
        refine g_iload_n rfl ?_
        refine g_iaload hI hw3 rfl (by first | with_reducible assumption | omega) (fun v102 ev102 lv102 uv102 => ?_)
        refine g_nop ?_
        exact g_iret ⟨_, rfl, rfl⟩
      · refine g_bipush (by decide) (fun v103 kv103 => ?_)
        refine g_goto ?_
        exact g_iret ⟨_, rfl, rfl⟩
    · refine g_bipush (by decide) (fun v104 kv104 => ?_)
      exact g_iret ⟨_, rfl, rfl⟩
  · refine g_bipush (by decide) (fun v105 kv105 => ?_)
    exact g_iret ⟨_, rfl, rfl⟩
set_option maxRecDepth 4000 in
set_option maxHeartbeats 4000000 in
/-- X3.placeWithout -/
theorem s_29 (a1 : Int32) (a2 : Int32) (ha2 : 0 ≤ a2.toInt ∧ a2.toInt ≤ 39) (H : mzH) (hI : gI SX H) (hJ : JX H) : gCall 29 [.ref 43, .int a1, .int a2] H (gRi (fun v H' => gI SX H' ∧ JX H' ∧ fZ H' 1 1 = fZ H 1 1 ∧ kpX H H')) := by
  obtain ⟨k1_1, ek1_1⟩ : ∃ z, z = fZ H 1 1 := ⟨_, rfl⟩
  have ik1_1 : k1_1.toInt = (fZ H 1 1).toInt := by rw [← ek1_1]
  have bk1_1 : 0 ≤ k1_1.toInt ∧ k1_1.toInt ≤ 900 := by rw [ek1_1]; exact fZ_of hI sx_1 rfl
  have mkfr : kpX H H := kpX_r
  refine gG_call [(0, .ref 43), (1, .int a1), (2, .int a2)] ⟨rfl, rfl, rfl, trivial⟩ ?_
  show gG 3 zB_29 (mzBlk zB_29 0) [(0, .ref 43), (1, .int a1), (2, .int a2)] [] H 0 0 _
  refine g_aload_n rfl ?_
  refine g_iload_n rfl ?_
  refine g_aload_n rfl ?_
  refine g_gfr hI sx_43 rfl ?_
  refine g_gfr hI sx_24 rfl ?_
  refine g_gfi hI sx_25 rfl (fun v53 ev53 lv53 uv53 => ?_)
  refine g_iconst (by decide) (fun v54 kv54 => ?_)
  refine g_isub (by first | with_reducible assumption | omega) (fun v55 ev55 => ?_)
  refine g_invvi hI sx_43 rfl rfl rfl rfl (s_30 a1 v55 H hI hJ) (fun v58 H56 r57 => ?_)
  obtain ⟨hIH56, hJH56, w59, m60⟩ := r57
  have e61 : k1_1 = fZ H56 1 1 := ek1_1.trans w59.symm
  have m62 : kpX H H56 := kpX_t mkfr m60
  refine g_pop rfl ?_
  refine g_aload_n rfl ?_
  refine g_gfr hIH56 sx_43 rfl ?_
  refine g_iload_n rfl ?_
  refine g_invvi hIH56 sx_44 rfl rfl rfl rfl (s_91 44 zWo_44 a2 (by first | with_reducible assumption | omega) H56 hIH56 hJH56) (fun v65 H63 r64 => ?_)
  obtain rfl := r64
  exact g_iret ⟨_, rfl, hIH56, hJH56, (e61.symm.trans ek1_1), m62⟩
set_option maxRecDepth 4000 in
set_option maxHeartbeats 4000000 in
/-- X3.deciding -/
theorem s_31 (a1 : Int32) (ha1 : 0 ≤ a1.toInt ∧ a1.toInt ≤ 59) (H : mzH) (hI : gI SX H) (hJ : JX H) : gCall 31 [.ref 43, .int a1] H (gRl (fun _ H' => gI SX H' ∧ JX H' ∧ fZ H' 1 1 = fZ H 1 1 ∧ kpX H H')) := by
  obtain ⟨k1_1, ek1_1⟩ : ∃ z, z = fZ H 1 1 := ⟨_, rfl⟩
  have ik1_1 : k1_1.toInt = (fZ H 1 1).toInt := by rw [← ek1_1]
  have bk1_1 : 0 ≤ k1_1.toInt ∧ k1_1.toInt ≤ 900 := by rw [ek1_1]; exact fZ_of hI sx_1 rfl
  have mkfr : kpX H H := kpX_r
  refine gG_call [(0, .ref 43), (1, .int a1)] ⟨rfl, rfl, trivial⟩ ?_
  show gG 8 zB_31 (mzBlk zB_31 0) [(0, .ref 43), (1, .int a1)] [] H 0 0 _
  refine g_lconst (fun v502 _ => ?_)
  refine g_lstore_n (l' := [(0, .ref 43), (1, .int a1), (2, .long v502)]) rfl rfl ?_
  refine g_aload_n rfl ?_
  refine g_gfr hI sx_43 rfl ?_
  refine g_gfr hI sx_24 rfl ?_
  refine g_iload_n rfl ?_
  refine g_invvi hI sx_25 rfl rfl rfl rfl (s_26 25 zCo_25 a1 H hI hJ) (fun v505 H503 r504 => ?_)
  obtain ⟨rfl, bv505⟩ := r504
  refine g_istore (l' := [(0, .ref 43), (1, .int a1), (2, .long v502), (4, .int v505)]) rfl rfl ?_
  refine g_iconst (by decide) (fun v506 kv506 => ?_)
  refine g_istore (l' := [(0, .ref 43), (1, .int a1), (2, .long v502), (4, .int v505), (5, .int v506)]) rfl rfl ?_
  refine g_nop ?_
  have L512 : ∀ (N : Nat) (v507 : Int64) (v508 : Int32) (H509 : mzH), gI SX H509 → JX H509 → k1_1 = fZ H509 1 1 → kpX H H509 → (0 ≤ v508.toInt ∧ v508.toInt ≤ 59) → (59 - v508.toInt).toNat < N → gG 8 zB_31 (mzBlk zB_31 1) [(0, .ref 43), (1, .int a1), (2, .long v507), (4, .int v505), (5, .int v508)] [] H509 0 0 (gRl (fun _ H' => gI SX H' ∧ JX H' ∧ fZ H' 1 1 = fZ H 1 1 ∧ kpX H H')) := by
    intro N
    induction N with
    | zero => intro v507 v508 H509 hIH509 hJH509 e510 m511 bv508 hmL512; exact absurd hmL512 (Nat.not_lt_zero _)
    | succ N ihL512 =>
      intro v507 v508 H509 hIH509 hJH509 e510 m511 bv508 hmL512
      refine g_iload rfl ?_
      refine g_iload rfl ?_
      refine g_if2_ge (fun c513 => ?_) (fun c513 => ?_)
      · refine g_lload_n rfl ?_
        exact g_lret ⟨_, rfl, hIH509, hJH509, (e510.symm.trans ek1_1), m511⟩
      · refine g_aload_n rfl ?_
        refine g_gfr hIH509 sx_43 rfl ?_
        refine g_gfr hIH509 sx_24 rfl ?_
        refine g_gfr hIH509 sx_25 rfl ?_
        refine g_iload rfl ?_
        refine g_iaload hIH509 sx_27 rfl (by first | with_reducible assumption | omega) (fun v514 ev514 lv514 uv514 => ?_)
        refine g_istore (l' := [(0, .ref 43), (1, .int a1), (2, .long v507), (4, .int v505), (5, .int v508), (6, .int v514)]) rfl rfl ?_
        refine g_aload_n rfl ?_
        refine g_iload rfl ?_
        refine g_iload rfl ?_
        refine g_invvi hIH509 sx_43 rfl rfl rfl rfl (s_30 v514 v505 H509 hIH509 hJH509) (fun v517 H515 r516 => ?_)
        obtain ⟨hIH515, hJH515, w518, m519⟩ := r516
        have e520 : k1_1 = fZ H515 1 1 := e510.trans w518.symm
        have m521 : kpX H H515 := kpX_t m511 m519
        refine g_if_ne (fun c522 => ?_) (fun c522 => ?_)
        · refine g_iconst (by decide) (fun v523 kv523 => ?_)
          refine g_nop ?_
          refine g_istore (l' := [(0, .ref 43), (1, .int a1), (2, .long v507), (4, .int v505), (5, .int v508), (6, .int v514), (7, .int v523)]) rfl rfl ?_
          refine g_iload rfl ?_
          refine g_aload_n rfl ?_
          refine g_gfr hIH515 sx_43 rfl ?_
          refine g_gfr hIH515 sx_24 rfl ?_
          refine g_iload_n rfl ?_
          refine g_iaload hIH515 sx_42 rfl (by first | with_reducible assumption | omega) (fun v524 ev524 lv524 uv524 => ?_)
          refine g_if_ne (fun c525 => ?_) (fun c525 => ?_)
          · refine g_iconst (by decide) (fun v526 kv526 => ?_)
            refine g_nop ?_
            refine g_if2_eq (fun c527 => ?_) (fun c527 => ?_)
            · refine g_iinc (l' := (fun v528 => [(0, .ref 43), (1, .int a1), (2, .long v507), (4, .int v505), (5, .int v528), (6, .int v514), (7, .int v523)])) rfl rfl (by decide) (by first | with_reducible assumption | omega) (fun _ => rfl) (fun v528 ev528 => ?_)
              refine g_goto ?_
              refine gG_pick [0, 1, 2, 4, 5] (l' := [(0, .ref 43), (1, .int a1), (2, .long v507), (4, .int v505), (5, .int v528)]) rfl ?_
              exact ihL512 v507 v528 H515 hIH515 hJH515 e520 m521 (by first | with_reducible assumption | omega) (by first | with_reducible assumption | omega)
            · exfalso; omega
          · refine g_iconst (by decide) (fun v529 kv529 => ?_)
            refine g_goto ?_
            refine g_if2_eq (fun c530 => ?_) (fun c530 => ?_)
            · exfalso; omega
            · refine g_lload_n rfl ?_
              refine g_lconst (fun v531 _ => ?_)
              refine g_iload rfl ?_
              refine g_lshl (fun v532 _ => ?_)
              refine g_lor (fun v533 _ => ?_)
              refine g_lstore_n (l' := [(0, .ref 43), (1, .int a1), (2, .long v533), (4, .int v505), (5, .int v508), (6, .int v514), (7, .int v523)]) rfl rfl ?_
              refine g_nop ?_
              refine g_iinc (l' := (fun v534 => [(0, .ref 43), (1, .int a1), (2, .long v533), (4, .int v505), (5, .int v534), (6, .int v514), (7, .int v523)])) rfl rfl (by decide) (by first | with_reducible assumption | omega) (fun _ => rfl) (fun v534 ev534 => ?_)
              refine g_goto ?_
              refine gG_pick [0, 1, 2, 4, 5] (l' := [(0, .ref 43), (1, .int a1), (2, .long v533), (4, .int v505), (5, .int v534)]) rfl ?_
              exact ihL512 v533 v534 H515 hIH515 hJH515 e520 m521 (by first | with_reducible assumption | omega) (by first | with_reducible assumption | omega)
        · refine g_iconst (by decide) (fun v535 kv535 => ?_)
          refine g_goto ?_
          refine g_istore (l' := [(0, .ref 43), (1, .int a1), (2, .long v507), (4, .int v505), (5, .int v508), (6, .int v514), (7, .int v535)]) rfl rfl ?_
          refine g_iload rfl ?_
          refine g_aload_n rfl ?_
          refine g_gfr hIH515 sx_43 rfl ?_
          refine g_gfr hIH515 sx_24 rfl ?_
          refine g_iload_n rfl ?_
          refine g_iaload hIH515 sx_42 rfl (by first | with_reducible assumption | omega) (fun v536 ev536 lv536 uv536 => ?_)
          refine g_if_ne (fun c537 => ?_) (fun c537 => ?_)
          · refine g_iconst (by decide) (fun v538 kv538 => ?_)
            refine g_nop ?_
            refine g_if2_eq (fun c539 => ?_) (fun c539 => ?_)
            · exfalso; omega
            · refine g_lload_n rfl ?_
              refine g_lconst (fun v540 _ => ?_)
              refine g_iload rfl ?_
              refine g_lshl (fun v541 _ => ?_)
              refine g_lor (fun v542 _ => ?_)
              refine g_lstore_n (l' := [(0, .ref 43), (1, .int a1), (2, .long v542), (4, .int v505), (5, .int v508), (6, .int v514), (7, .int v535)]) rfl rfl ?_
              refine g_nop ?_
              refine g_iinc (l' := (fun v543 => [(0, .ref 43), (1, .int a1), (2, .long v542), (4, .int v505), (5, .int v543), (6, .int v514), (7, .int v535)])) rfl rfl (by decide) (by first | with_reducible assumption | omega) (fun _ => rfl) (fun v543 ev543 => ?_)
              refine g_goto ?_
              refine gG_pick [0, 1, 2, 4, 5] (l' := [(0, .ref 43), (1, .int a1), (2, .long v542), (4, .int v505), (5, .int v543)]) rfl ?_
              exact ihL512 v542 v543 H515 hIH515 hJH515 e520 m521 (by first | with_reducible assumption | omega) (by first | with_reducible assumption | omega)
          · refine g_iconst (by decide) (fun v544 kv544 => ?_)
            refine g_goto ?_
            refine g_if2_eq (fun c545 => ?_) (fun c545 => ?_)
            · refine g_iinc (l' := (fun v546 => [(0, .ref 43), (1, .int a1), (2, .long v507), (4, .int v505), (5, .int v546), (6, .int v514), (7, .int v535)])) rfl rfl (by decide) (by first | with_reducible assumption | omega) (fun _ => rfl) (fun v546 ev546 => ?_)
              refine g_goto ?_
              refine gG_pick [0, 1, 2, 4, 5] (l' := [(0, .ref 43), (1, .int a1), (2, .long v507), (4, .int v505), (5, .int v546)]) rfl ?_
              exact ihL512 v507 v546 H515 hIH515 hJH515 e520 m521 (by first | with_reducible assumption | omega) (by first | with_reducible assumption | omega)
            · exfalso; omega
  exact L512 _ v502 v506 H hI hJ ek1_1 mkfr (by first | with_reducible assumption | omega) (Nat.lt_succ_self _)
set_option maxRecDepth 4000 in
set_option maxHeartbeats 4000000 in
/-- X3.outcome -/
theorem s_34 (a1 : Int32) (ha1 : -1 ≤ a1.toInt ∧ a1.toInt ≤ 39) (H : mzH) (hI : gI SX H) (hJ : JX H) : gCall 34 [.ref 43, .int a1] H (gRi (fun v H' => gI SX H' ∧ JX H' ∧ fZ H' 1 1 = fZ H 1 1 ∧ kpX H H')) := by
  obtain ⟨k1_1, ek1_1⟩ : ∃ z, z = fZ H 1 1 := ⟨_, rfl⟩
  have ik1_1 : k1_1.toInt = (fZ H 1 1).toInt := by rw [← ek1_1]
  have bk1_1 : 0 ≤ k1_1.toInt ∧ k1_1.toInt ≤ 900 := by rw [ek1_1]; exact fZ_of hI sx_1 rfl
  have mkfr : kpX H H := kpX_r
  refine gG_call [(0, .ref 43), (1, .int a1)] ⟨rfl, rfl, trivial⟩ ?_
  show gG 4 zB_34 (mzBlk zB_34 0) [(0, .ref 43), (1, .int a1)] [] H 0 0 _
  refine g_aload_n rfl ?_
  refine g_gfr hI sx_43 rfl ?_
  refine g_invvv hI sx_51 rfl rfl rfl rfl (s_25 51 zCo_51 H hI hJ) (fun H837 r838 => ?_)
  obtain ⟨hIH837, hJH837, w839, m840⟩ := r838
  have e841 : k1_1 = fZ H837 1 1 := ek1_1.trans w839.symm
  have m842 : kpX H H837 := kpX_t mkfr (kpX_N (by decide) m840)
  refine g_aload_n rfl ?_
  refine g_gfr hIH837 sx_43 rfl ?_
  refine g_invvv hIH837 sx_44 rfl rfl rfl rfl (s_83 44 zWo_44 H837 hIH837 hJH837) (fun H843 r844 => ?_)
  obtain ⟨hIH843, hJH843, w845, m846⟩ := r844
  have e847 : k1_1 = fZ H843 1 1 := e841.trans w845.symm
  have m848 : kpX H H843 := kpX_t m842 m846
  refine g_iconst (by decide) (fun v849 kv849 => ?_)
  refine g_istore_n (l' := [(0, .ref 43), (1, .int a1), (2, .int v849)]) rfl rfl ?_
  refine g_iconst (by decide) (fun v850 kv850 => ?_)
  refine g_istore_n (l' := [(0, .ref 43), (1, .int a1), (2, .int v849), (3, .int v850)]) rfl rfl ?_
  refine g_nop ?_
  have L856 : ∀ (N : Nat) (v851 : Int32) (v852 : Int32) (H853 : mzH), gI SX H853 → JX H853 → k1_1 = fZ H853 1 1 → kpX H H853 → (0 ≤ v852.toInt ∧ v852.toInt ≤ 60) → (60 - v852.toInt).toNat < N → gG 4 zB_34 (mzBlk zB_34 1) [(0, .ref 43), (1, .int a1), (2, .int v851), (3, .int v852)] [] H853 0 0 (gRi (fun v H' => gI SX H' ∧ JX H' ∧ fZ H' 1 1 = fZ H 1 1 ∧ kpX H H')) := by
    intro N
    induction N with
    | zero => intro v851 v852 H853 hIH853 hJH853 e854 m855 bv852 hmL856; exact absurd hmL856 (Nat.not_lt_zero _)
    | succ N ihL856 =>
      intro v851 v852 H853 hIH853 hJH853 e854 m855 bv852 hmL856
      refine g_iload_n rfl ?_
      refine g_aload_n rfl ?_
      refine g_gfr hIH853 sx_43 rfl ?_
      refine g_gfi hIH853 sx_51 rfl (fun v857 ev857 lv857 uv857 => ?_)
      refine g_if2_ge (fun c858 => ?_) (fun c858 => ?_)
      · refine g_iload_n rfl ?_
        refine g_if_ge (fun c859 => ?_) (fun c859 => ?_)
        · refine g_aload_n rfl ?_
          refine g_gfr hIH853 sx_43 rfl ?_
          refine g_iload_n rfl ?_
          refine g_invvi hIH853 sx_44 rfl rfl rfl rfl (s_91 44 zWo_44 a1 (by first | with_reducible assumption | omega) H853 hIH853 hJH853) (fun v862 H860 r861 => ?_)
          obtain rfl := r861
          refine g_nop ?_
          exact g_iret ⟨_, rfl, hIH853, hJH853, (e854.symm.trans ek1_1), m855⟩
        · refine g_iload_n rfl ?_
          refine g_goto ?_
          exact g_iret ⟨_, rfl, hIH853, hJH853, (e854.symm.trans ek1_1), m855⟩
      · refine g_iload_n rfl ?_
        refine g_aload_n rfl ?_
        refine g_gfr hIH853 sx_43 rfl ?_
        refine g_aload_n rfl ?_
        refine g_gfr hIH853 sx_43 rfl ?_
        refine g_aload_n rfl ?_
        refine g_gfr hIH853 sx_43 rfl ?_
        refine g_gfr hIH853 sx_51 rfl ?_
        refine g_iload_n rfl ?_
        refine g_iaload hIH853 sx_53 rfl (by first | with_reducible assumption | omega) (fun v863 ev863 lv863 uv863 => ?_)
        refine g_aload_n rfl ?_
        refine g_gfr hIH853 sx_43 rfl ?_
        refine g_iload_n rfl ?_
        refine g_invvi hIH853 sx_51 rfl rfl rfl rfl (s_27 51 zCo_51 v852 (by first | with_reducible assumption | omega) H853 hIH853 hJH853) (fun v866 H864 r865 => ?_)
        obtain rfl := r865
        refine g_invvi hIH853 sx_44 rfl rfl rfl rfl (s_93 44 zWo_44 3 zBo_3 v863 (by first | with_reducible assumption | omega) v866 H853 hIH853 hJH853) (fun v869 H867 r868 => ?_)
        obtain ⟨hIH867, hJH867, w870, m871⟩ := r868
        have e872 : k1_1 = fZ H867 1 1 := e854.trans w870.symm
        have m873 : kpX H H867 := kpX_t m855 m871
        refine g_if_eq (fun c874 => ?_) (fun c874 => ?_)
        · refine g_iconst (by decide) (fun v875 kv875 => ?_)
          refine g_nop ?_
          refine g_iadd (by have := gz_any v851; omega) (fun v876 ev876 => ?_)
          refine g_istore_n (l' := [(0, .ref 43), (1, .int a1), (2, .int v876), (3, .int v852)]) rfl rfl ?_
          refine g_iinc (l' := (fun v877 => [(0, .ref 43), (1, .int a1), (2, .int v876), (3, .int v877)])) rfl rfl (by decide) (by first | with_reducible assumption | omega) (fun _ => rfl) (fun v877 ev877 => ?_)
          refine g_goto ?_
          exact ihL856 v876 v877 H867 hIH867 hJH867 e872 m873 (by first | with_reducible assumption | omega) (by first | with_reducible assumption | omega)
        · refine g_iconst (by decide) (fun v878 kv878 => ?_)
          refine g_goto ?_
          refine g_iadd' (fun v879 ov879 => ?_)
          refine g_istore_n (l' := [(0, .ref 43), (1, .int a1), (2, .int v879), (3, .int v852)]) rfl rfl ?_
          refine g_iinc (l' := (fun v880 => [(0, .ref 43), (1, .int a1), (2, .int v879), (3, .int v880)])) rfl rfl (by decide) (by first | with_reducible assumption | omega) (fun _ => rfl) (fun v880 ev880 => ?_)
          refine g_goto ?_
          exact ihL856 v879 v880 H867 hIH867 hJH867 e872 m873 (by first | with_reducible assumption | omega) (by first | with_reducible assumption | omega)
  exact L856 _ v849 v850 H843 hIH843 hJH843 e847 m848 (by first | with_reducible assumption | omega) (Nat.lt_succ_self _)
set_option maxRecDepth 4000 in
set_option maxHeartbeats 4000000 in
/-- X3.outcomeAt -/
theorem s_32 (a1 : Int32) (ha1 : 0 ≤ a1.toInt ∧ a1.toInt ≤ 59) (a2 : Int32) (a3 : Int32) (ha3 : -1 ≤ a3.toInt ∧ a3.toInt ≤ 39) (H : mzH) (hI : gI SX H) (hJ : JX H) : gCall 32 [.ref 43, .int a1, .int a2, .int a3] H (gRi (fun v H' => gI SX H' ∧ JX H' ∧ fZ H' 1 1 = fZ H 1 1 ∧ kpX H H')) := by
  obtain ⟨k1_1, ek1_1⟩ : ∃ z, z = fZ H 1 1 := ⟨_, rfl⟩
  have ik1_1 : k1_1.toInt = (fZ H 1 1).toInt := by rw [← ek1_1]
  have bk1_1 : 0 ≤ k1_1.toInt ∧ k1_1.toInt ≤ 900 := by rw [ek1_1]; exact fZ_of hI sx_1 rfl
  have mkfr : kpX H H := kpX_r
  refine gG_call [(0, .ref 43), (1, .int a1), (2, .int a2), (3, .int a3)] ⟨rfl, rfl, rfl, rfl, trivial⟩ ?_
  show gG 4 zB_32 (mzBlk zB_32 0) [(0, .ref 43), (1, .int a1), (2, .int a2), (3, .int a3)] [] H 0 0 _
  refine g_aload_n rfl ?_
  refine g_gfr hI sx_43 rfl ?_
  refine g_aload_n rfl ?_
  refine g_gfr hI sx_43 rfl ?_
  refine g_invvv hI sx_51 rfl rfl rfl rfl (s_24 51 zCo_51 3 zBo_3 H hI hJ) (fun H65 r66 => ?_)
  obtain ⟨hIH65, hJH65, w67, m68⟩ := r66
  have e69 : k1_1 = fZ H65 1 1 := ek1_1.trans w67.symm
  have m70 : kpX H H65 := kpX_t mkfr (kpX_N (by decide) m68)
  refine g_aload_n rfl ?_
  refine g_gfr hIH65 sx_43 rfl ?_
  refine g_gfr hIH65 sx_51 rfl ?_
  refine g_iload_n rfl ?_
  refine g_iload_n rfl ?_
  refine g_iastore hIH65 sx_52 (by first | with_reducible assumption | omega) (gz_any _) (fun H71 eH71 hIH71 => ?_)
  have hJH71 : JX H71 := JX_sA (by first | with_reducible assumption | omega) eH71 hJH65
  have e72 : k1_1 = fZ H71 1 1 := by rw [eH71, fZ_sA]; exact e69
  have m73 : kpX H H71 := kpX_A m70 eH71 (by first | with_reducible assumption | omega)
  refine g_aload_n rfl ?_
  refine g_iload_n rfl ?_
  refine g_invvi hIH71 sx_43 rfl rfl rfl rfl (s_34 a3 (by first | with_reducible assumption | omega) H71 hIH71 hJH71) (fun v76 H74 r75 => ?_)
  obtain ⟨hIH74, hJH74, w77, m78⟩ := r75
  have e79 : k1_1 = fZ H74 1 1 := e72.trans w77.symm
  have m80 : kpX H H74 := kpX_t m73 m78
  exact g_iret ⟨_, rfl, hIH74, hJH74, (e79.symm.trans ek1_1), m80⟩
set_option maxRecDepth 4000 in
set_option maxHeartbeats 4000000 in
/-- X3.outcomeSwapped -/
theorem s_33 (a1 : Int32) (ha1 : 0 ≤ a1.toInt ∧ a1.toInt ≤ 59) (a2 : Int32) (ha2 : 0 ≤ a2.toInt ∧ a2.toInt ≤ 59) (a3 : Int32) (ha3 : -1 ≤ a3.toInt ∧ a3.toInt ≤ 39) (H : mzH) (hI : gI SX H) (hJ : JX H) : gCall 33 [.ref 43, .int a1, .int a2, .int a3] H (gRi (fun v H' => gI SX H' ∧ JX H' ∧ fZ H' 1 1 = fZ H 1 1 ∧ kpX H H')) := by
  obtain ⟨k1_1, ek1_1⟩ : ∃ z, z = fZ H 1 1 := ⟨_, rfl⟩
  have ik1_1 : k1_1.toInt = (fZ H 1 1).toInt := by rw [← ek1_1]
  have bk1_1 : 0 ≤ k1_1.toInt ∧ k1_1.toInt ≤ 900 := by rw [ek1_1]; exact fZ_of hI sx_1 rfl
  have mkfr : kpX H H := kpX_r
  refine gG_call [(0, .ref 43), (1, .int a1), (2, .int a2), (3, .int a3)] ⟨rfl, rfl, rfl, rfl, trivial⟩ ?_
  show gG 4 zB_33 (mzBlk zB_33 0) [(0, .ref 43), (1, .int a1), (2, .int a2), (3, .int a3)] [] H 0 0 _
  refine g_aload_n rfl ?_
  refine g_gfr hI sx_43 rfl ?_
  refine g_aload_n rfl ?_
  refine g_gfr hI sx_43 rfl ?_
  refine g_invvv hI sx_51 rfl rfl rfl rfl (s_24 51 zCo_51 3 zBo_3 H hI hJ) (fun H85 r86 => ?_)
  obtain ⟨hIH85, hJH85, w87, m88⟩ := r86
  have e89 : k1_1 = fZ H85 1 1 := ek1_1.trans w87.symm
  have m90 : kpX H H85 := kpX_t mkfr (kpX_N (by decide) m88)
  refine g_aload_n rfl ?_
  refine g_gfr hIH85 sx_43 rfl ?_
  refine g_gfr hIH85 sx_51 rfl ?_
  refine g_iload_n rfl ?_
  refine g_aload_n rfl ?_
  refine g_gfr hIH85 sx_43 rfl ?_
  refine g_gfr hIH85 sx_3 rfl ?_
  refine g_iload_n rfl ?_
  refine g_iaload hIH85 sx_6 rfl (by first | with_reducible assumption | omega) (fun v91 ev91 lv91 uv91 => ?_)
  refine g_iastore hIH85 sx_52 (by first | with_reducible assumption | omega) (gz_any _) (fun H92 eH92 hIH92 => ?_)
  have hJH92 : JX H92 := JX_sA (by first | with_reducible assumption | omega) eH92 hJH85
  have e93 : k1_1 = fZ H92 1 1 := by rw [eH92, fZ_sA]; exact e89
  have m94 : kpX H H92 := kpX_A m90 eH92 (by first | with_reducible assumption | omega)
  refine g_aload_n rfl ?_
  refine g_gfr hIH92 sx_43 rfl ?_
  refine g_gfr hIH92 sx_51 rfl ?_
  refine g_iload_n rfl ?_
  refine g_aload_n rfl ?_
  refine g_gfr hIH92 sx_43 rfl ?_
  refine g_gfr hIH92 sx_3 rfl ?_
  refine g_iload_n rfl ?_
  refine g_iaload hIH92 sx_6 rfl (by first | with_reducible assumption | omega) (fun v95 ev95 lv95 uv95 => ?_)
  refine g_iastore hIH92 sx_52 (by first | with_reducible assumption | omega) (gz_any _) (fun H96 eH96 hIH96 => ?_)
  have hJH96 : JX H96 := JX_sA (by first | with_reducible assumption | omega) eH96 hJH92
  have e97 : k1_1 = fZ H96 1 1 := by rw [eH96, fZ_sA]; exact e93
  have m98 : kpX H H96 := kpX_A m94 eH96 (by first | with_reducible assumption | omega)
  refine g_aload_n rfl ?_
  refine g_iload_n rfl ?_
  refine g_invvi hIH96 sx_43 rfl rfl rfl rfl (s_34 a3 (by first | with_reducible assumption | omega) H96 hIH96 hJH96) (fun v101 H99 r100 => ?_)
  obtain ⟨hIH99, hJH99, w102, m103⟩ := r100
  have e104 : k1_1 = fZ H99 1 1 := e97.trans w102.symm
  have m105 : kpX H H99 := kpX_t m98 m103
  exact g_iret ⟨_, rfl, hIH99, hJH99, (e104.symm.trans ek1_1), m105⟩
set_option maxRecDepth 4000 in
set_option maxHeartbeats 4000000 in
/-- X3.isAheadOf -/
theorem s_36 (a1 : Int32) (ha1 : 0 ≤ a1.toInt ∧ a1.toInt ≤ 59) (a2 : Int32) (a3 : Int32) (H : mzH) (hI : gI SX H) (hJ : JX H) : gCall 36 [.ref 43, .int a1, .int a2, .int a3] H (gRi (fun v H' => H = H' ∧ (0 ≤ v.toInt ∧ v.toInt ≤ 1))) := by
  refine gG_call [(0, .ref 43), (1, .int a1), (2, .int a2), (3, .int a3)] ⟨rfl, rfl, rfl, rfl, trivial⟩ ?_
  show gG 6 zB_36 (mzBlk zB_36 0) [(0, .ref 43), (1, .int a1), (2, .int a2), (3, .int a3)] [] H 0 0 _
  refine g_aload_n rfl ?_
  refine g_gfr hI sx_43 rfl ?_
  refine g_gfr hI sx_24 rfl ?_
  refine g_gfr hI sx_25 rfl ?_
  refine g_iload_n rfl ?_
  refine g_iaload hI sx_27 rfl (by first | with_reducible assumption | omega) (fun v45 ev45 lv45 uv45 => ?_)
  refine g_istore (l' := [(0, .ref 43), (1, .int a1), (2, .int a2), (3, .int a3), (4, .int v45)]) rfl rfl ?_
  refine g_aload_n rfl ?_
  refine g_gfr hI sx_43 rfl ?_
  refine g_gfr hI sx_3 rfl ?_
  refine g_iload rfl ?_
  refine g_iaload hI sx_6 rfl (by first | with_reducible assumption | omega) (fun v46 ev46 lv46 uv46 => ?_)
  refine g_istore (l' := [(0, .ref 43), (1, .int a1), (2, .int a2), (3, .int a3), (4, .int v45), (5, .int v46)]) rfl rfl ?_
  refine g_iload rfl ?_
  refine g_iload_n rfl ?_
  refine g_if2_eq (fun c47 => ?_) (fun c47 => ?_)
  · refine g_iconst (by decide) (fun v48 kv48 => ?_)
    refine g_goto ?_
    exact g_zret (by first | with_reducible assumption | omega) ⟨_, rfl, rfl, (by first | with_reducible assumption | omega)⟩
  · refine g_iload rfl ?_
    refine g_iload_n rfl ?_
    refine g_if2_lt (fun c49 => ?_) (fun c49 => ?_)
    · refine g_iconst (by decide) (fun v50 kv50 => ?_)
      refine g_goto ?_
      exact g_zret (by first | with_reducible assumption | omega) ⟨_, rfl, rfl, (by first | with_reducible assumption | omega)⟩
    · refine g_iload rfl ?_
      refine g_iload_n rfl ?_
      refine g_if2_ne (fun c51 => ?_) (fun c51 => ?_)
      · refine g_iconst (by decide) (fun v52 kv52 => ?_)
        refine g_nop ?_
        exact g_zret (by first | with_reducible assumption | omega) ⟨_, rfl, rfl, (by first | with_reducible assumption | omega)⟩
      · refine g_iload rfl ?_
        refine g_iload_n rfl ?_
        refine g_if2_ge (fun c53 => ?_) (fun c53 => ?_)
        · refine g_iconst (by decide) (fun v54 kv54 => ?_)
          refine g_nop ?_
          exact g_zret (by first | with_reducible assumption | omega) ⟨_, rfl, rfl, (by first | with_reducible assumption | omega)⟩
        · refine g_nop ?_
          refine g_iconst (by decide) (fun v55 kv55 => ?_)
          refine g_goto ?_
          exact g_zret (by first | with_reducible assumption | omega) ⟨_, rfl, rfl, (by first | with_reducible assumption | omega)⟩
set_option maxRecDepth 4000 in
set_option maxHeartbeats 4000000 in
/-- X3.openWindow -/
theorem s_35 (a1 : Int32) (ha1 : 0 ≤ a1.toInt ∧ a1.toInt ≤ 59) (H : mzH) (hI : gI SX H) (hJ : JX H) : gCall 35 [.ref 43, .int a1] H (gRv (fun H' => gI SX H' ∧ JX H' ∧ fZ H' 1 1 = fZ H 1 1 ∧ kpX H H')) := by
  obtain ⟨k1_1, ek1_1⟩ : ∃ z, z = fZ H 1 1 := ⟨_, rfl⟩
  have ik1_1 : k1_1.toInt = (fZ H 1 1).toInt := by rw [← ek1_1]
  have bk1_1 : 0 ≤ k1_1.toInt ∧ k1_1.toInt ≤ 900 := by rw [ek1_1]; exact fZ_of hI sx_1 rfl
  have mkfr : kpX H H := kpX_r
  refine gG_call [(0, .ref 43), (1, .int a1)] ⟨rfl, rfl, trivial⟩ ?_
  show gG 8 zB_35 (mzBlk zB_35 0) [(0, .ref 43), (1, .int a1)] [] H 0 0 _
  have L5867 : ∀ (N : Nat) (v5860 : Int32) (v5861 : Int32) (v5862 : Int32) (v5863 : Int32) (H5864 : mzH), gI SX H5864 → JX H5864 → k1_1 = fZ H5864 1 1 → kpX H H5864 → (0 ≤ v5860.toInt ∧ v5860.toInt ≤ 60) → (0 ≤ v5861.toInt ∧ v5861.toInt ≤ 1) → (0 ≤ v5862.toInt ∧ v5862.toInt ≤ 1) → (0 ≤ v5863.toInt ∧ v5863.toInt ≤ 1000) → (1000 - v5863.toInt).toNat < N → gG 8 zB_35 (mzBlk zB_35 6) [(0, .ref 43), (1, .int a1), (2, .int v5860), (3, .int v5861), (4, .int v5862), (5, .int v5863)] [] H5864 0 0 (gRv (fun H' => gI SX H' ∧ JX H' ∧ fZ H' 1 1 = fZ H 1 1 ∧ kpX H H')) := by
    intro N
    induction N with
    | zero => intro v5860 v5861 v5862 v5863 H5864 hIH5864 hJH5864 e5865 m5866 bv5860 bv5861 bv5862 bv5863 hmL5867; exact absurd hmL5867 (Nat.not_lt_zero _)
    | succ N ihL5867 =>
      intro v5860 v5861 v5862 v5863 H5864 hIH5864 hJH5864 e5865 m5866 bv5860 bv5861 bv5862 bv5863 hmL5867
      refine g_iload rfl ?_
      refine g_sipush (by decide) (fun v5868 kv5868 => ?_)
      refine g_if2_gt (fun c5869 => ?_) (fun c5869 => ?_)
      · exact g_ret ⟨rfl, hIH5864, hJH5864, (e5865.symm.trans ek1_1), m5866⟩
      · refine g_iload_n rfl ?_
        refine g_istore (l' := [(0, .ref 43), (1, .int a1), (2, .int v5860), (3, .int v5861), (4, .int v5862), (5, .int v5863), (6, .int v5860)]) rfl rfl ?_
        refine g_nop ?_
        have L5874 : ∀ (N : Nat) (v5870 : Int32) (H5871 : mzH), gI SX H5871 → JX H5871 → k1_1 = fZ H5871 1 1 → kpX H H5871 → (0 ≤ v5870.toInt ∧ v5870.toInt ≤ 60) → (60 - v5870.toInt).toNat < N → gG 8 zB_35 (mzBlk zB_35 7) [(0, .ref 43), (1, .int a1), (2, .int v5870), (3, .int v5861), (4, .int v5862), (5, .int v5863), (6, .int v5860)] [] H5871 0 0 (gRv (fun H' => gI SX H' ∧ JX H' ∧ fZ H' 1 1 = fZ H 1 1 ∧ kpX H H')) := by
          intro N
          induction N with
          | zero => intro v5870 H5871 hIH5871 hJH5871 e5872 m5873 bv5870 hmL5874; exact absurd hmL5874 (Nat.not_lt_zero _)
          | succ N ihL5874 =>
            intro v5870 H5871 hIH5871 hJH5871 e5872 m5873 bv5870 hmL5874
            refine g_iload_n rfl ?_
            refine g_aload_n rfl ?_
            refine g_gfr hIH5871 sx_43 rfl ?_
            refine g_gfr hIH5871 sx_24 rfl ?_
            refine g_gfi hIH5871 sx_25 rfl (fun v5875 ev5875 lv5875 uv5875 => ?_)
            refine g_if2_ge (fun c5876 => ?_) (fun c5876 => ?_)
            · refine g_iload_n rfl ?_
              refine g_iload rfl ?_
              refine g_if2_ne (fun c5877 => ?_) (fun c5877 => ?_)
              · refine g_aload_n rfl ?_
                refine g_gfr hIH5871 sx_43 rfl ?_
                refine g_aload_n rfl ?_
                refine g_gfr hIH5871 sx_43 rfl ?_
                refine g_iload_n rfl ?_
                refine g_iload rfl ?_
                refine g_invvi hIH5871 sx_44 rfl rfl rfl rfl (s_94 44 zWo_44 3 zBo_3 a1 (by first | with_reducible assumption | omega) v5863 H5871 hIH5871 hJH5871) (fun v5880 H5878 r5879 => ?_)
                obtain rfl := r5879
                refine g_if_ne (fun c5881 => ?_) (fun c5881 => ?_)
                · refine g_iconst (by decide) (fun v5882 kv5882 => ?_)
                  refine g_nop ?_
                  refine g_istore_n (l' := [(0, .ref 43), (1, .int a1), (2, .int v5870), (3, .int v5882), (4, .int v5862), (5, .int v5863), (6, .int v5860)]) rfl rfl ?_
                  refine g_nop ?_
                  refine g_iload_n rfl ?_
                  refine g_if_eq (fun c5883 => ?_) (fun c5883 => ?_)
                  · refine g_iinc (l' := (fun v5884 => [(0, .ref 43), (1, .int a1), (2, .int v5870), (3, .int v5882), (4, .int v5862), (5, .int v5884), (6, .int v5860)])) rfl rfl (by decide) (by first | with_reducible assumption | omega) (fun _ => rfl) (fun v5884 ev5884 => ?_)
                    refine g_goto ?_
                    refine gG_pick [0, 1, 2, 3, 4, 5] (l' := [(0, .ref 43), (1, .int a1), (2, .int v5870), (3, .int v5882), (4, .int v5862), (5, .int v5884)]) rfl ?_
                    exact ihL5867 v5870 v5882 v5862 v5884 H5871 hIH5871 hJH5871 e5872 m5873 (by first | with_reducible assumption | omega) (by first | with_reducible assumption | omega) (by first | with_reducible assumption | omega) (by first | with_reducible assumption | omega) (by first | with_reducible assumption | omega)
                  · exfalso; omega
                · refine g_iconst (by decide) (fun v5885 kv5885 => ?_)
                  refine g_goto ?_
                  refine g_istore_n (l' := [(0, .ref 43), (1, .int a1), (2, .int v5870), (3, .int v5885), (4, .int v5862), (5, .int v5863), (6, .int v5860)]) rfl rfl ?_
                  refine g_nop ?_
                  refine g_iload_n rfl ?_
                  refine g_if_eq (fun c5886 => ?_) (fun c5886 => ?_)
                  · exfalso; omega
                  · refine g_aload_n rfl ?_
                    refine g_aload_n rfl ?_
                    refine g_gfi hIH5871 sx_43 rfl (fun v5887 ev5887 lv5887 uv5887 => ?_)
                    refine g_if_ne (fun c5888 => ?_) (fun c5888 => ?_)
                    · refine g_aload_n rfl ?_
                      refine g_gfi hIH5871 sx_43 rfl (fun v5889 ev5889 lv5889 uv5889 => ?_)
                      refine g_nop ?_
                      refine g_pfi hIH5871 sx_43 rfl (gz_any _) (fun H5890 eH5890 hIH5890 => ?_)
                      have hJH5890 : JX H5890 := JX_sF eH5890 hJH5871
                      have e5891 : k1_1 = fZ H5890 1 1 := by rw [eH5890, fZ_sF_nc (by first | with_reducible assumption | omega)]; exact e5872
                      have m5892 : kpX H H5890 := kpX_F m5873 eH5890 (by first | with_reducible assumption | omega)
                      refine g_aload_n rfl ?_
                      refine g_iload rfl ?_
                      refine g_pfi hIH5890 sx_43 rfl (gz_any _) (fun H5893 eH5893 hIH5893 => ?_)
                      have hJH5893 : JX H5893 := JX_sF eH5893 hJH5890
                      have e5894 : k1_1 = fZ H5893 1 1 := by rw [eH5893, fZ_sF_nc (by first | with_reducible assumption | omega)]; exact e5891
                      have m5895 : kpX H H5893 := kpX_F m5892 eH5893 (by first | with_reducible assumption | omega)
                      refine g_aload_n rfl ?_
                      refine g_dup rfl ?_
                      refine g_gfi hIH5893 sx_43 rfl (fun v5896 ev5896 lv5896 uv5896 => ?_)
                      refine g_iconst (by decide) (fun v5897 kv5897 => ?_)
                      refine g_iadd' (fun v5898 ov5898 => ?_)
                      refine g_pfi hIH5893 sx_43 rfl (gz_any _) (fun H5899 eH5899 hIH5899 => ?_)
                      have hJH5899 : JX H5899 := JX_sF eH5899 hJH5893
                      have e5900 : k1_1 = fZ H5899 1 1 := by rw [eH5899, fZ_sF_nc (by first | with_reducible assumption | omega)]; exact e5894
                      have m5901 : kpX H H5899 := kpX_F m5895 eH5899 (by first | with_reducible assumption | omega)
                      refine g_nop ?_
                      refine g_iinc (l' := (fun v5902 => [(0, .ref 43), (1, .int a1), (2, .int v5870), (3, .int v5885), (4, .int v5862), (5, .int v5902), (6, .int v5860)])) rfl rfl (by decide) (by first | with_reducible assumption | omega) (fun _ => rfl) (fun v5902 ev5902 => ?_)
                      refine g_goto ?_
                      refine gG_pick [0, 1, 2, 3, 4, 5] (l' := [(0, .ref 43), (1, .int a1), (2, .int v5870), (3, .int v5885), (4, .int v5862), (5, .int v5902)]) rfl ?_
                      exact ihL5867 v5870 v5885 v5862 v5902 H5899 hIH5899 hJH5899 e5900 m5901 (by first | with_reducible assumption | omega) (by first | with_reducible assumption | omega) (by first | with_reducible assumption | omega) (by first | with_reducible assumption | omega) (by first | with_reducible assumption | omega)
                    · refine g_iload rfl ?_
                      refine g_goto ?_
                      refine g_pfi hIH5871 sx_43 rfl (gz_any _) (fun H5903 eH5903 hIH5903 => ?_)
                      have hJH5903 : JX H5903 := JX_sF eH5903 hJH5871
                      have e5904 : k1_1 = fZ H5903 1 1 := by rw [eH5903, fZ_sF_nc (by first | with_reducible assumption | omega)]; exact e5872
                      have m5905 : kpX H H5903 := kpX_F m5873 eH5903 (by first | with_reducible assumption | omega)
                      refine g_aload_n rfl ?_
                      refine g_iload rfl ?_
                      refine g_pfi hIH5903 sx_43 rfl (gz_any _) (fun H5906 eH5906 hIH5906 => ?_)
                      have hJH5906 : JX H5906 := JX_sF eH5906 hJH5903
                      have e5907 : k1_1 = fZ H5906 1 1 := by rw [eH5906, fZ_sF_nc (by first | with_reducible assumption | omega)]; exact e5904
                      have m5908 : kpX H H5906 := kpX_F m5905 eH5906 (by first | with_reducible assumption | omega)
                      refine g_aload_n rfl ?_
                      refine g_dup rfl ?_
                      refine g_gfi hIH5906 sx_43 rfl (fun v5909 ev5909 lv5909 uv5909 => ?_)
                      refine g_iconst (by decide) (fun v5910 kv5910 => ?_)
                      refine g_iadd' (fun v5911 ov5911 => ?_)
                      refine g_pfi hIH5906 sx_43 rfl (gz_any _) (fun H5912 eH5912 hIH5912 => ?_)
                      have hJH5912 : JX H5912 := JX_sF eH5912 hJH5906
                      have e5913 : k1_1 = fZ H5912 1 1 := by rw [eH5912, fZ_sF_nc (by first | with_reducible assumption | omega)]; exact e5907
                      have m5914 : kpX H H5912 := kpX_F m5908 eH5912 (by first | with_reducible assumption | omega)
                      refine g_nop ?_
                      refine g_iinc (l' := (fun v5915 => [(0, .ref 43), (1, .int a1), (2, .int v5870), (3, .int v5885), (4, .int v5862), (5, .int v5915), (6, .int v5860)])) rfl rfl (by decide) (by first | with_reducible assumption | omega) (fun _ => rfl) (fun v5915 ev5915 => ?_)
                      refine g_goto ?_
                      refine gG_pick [0, 1, 2, 3, 4, 5] (l' := [(0, .ref 43), (1, .int a1), (2, .int v5870), (3, .int v5885), (4, .int v5862), (5, .int v5915)]) rfl ?_
                      exact ihL5867 v5870 v5885 v5862 v5915 H5912 hIH5912 hJH5912 e5913 m5914 (by first | with_reducible assumption | omega) (by first | with_reducible assumption | omega) (by first | with_reducible assumption | omega) (by first | with_reducible assumption | omega) (by first | with_reducible assumption | omega)
              · refine g_iload rfl ?_
                refine g_if_eq (fun c5916 => ?_) (fun c5916 => ?_)
                · refine g_iload_n rfl ?_
                  refine g_if_eq (fun c5917 => ?_) (fun c5917 => ?_)
                  · refine g_iinc (l' := (fun v5918 => [(0, .ref 43), (1, .int a1), (2, .int v5870), (3, .int v5861), (4, .int v5862), (5, .int v5918), (6, .int v5860)])) rfl rfl (by decide) (by first | with_reducible assumption | omega) (fun _ => rfl) (fun v5918 ev5918 => ?_)
                    refine g_goto ?_
                    refine gG_pick [0, 1, 2, 3, 4, 5] (l' := [(0, .ref 43), (1, .int a1), (2, .int v5870), (3, .int v5861), (4, .int v5862), (5, .int v5918)]) rfl ?_
                    exact ihL5867 v5870 v5861 v5862 v5918 H5871 hIH5871 hJH5871 e5872 m5873 (by first | with_reducible assumption | omega) (by first | with_reducible assumption | omega) (by first | with_reducible assumption | omega) (by first | with_reducible assumption | omega) (by first | with_reducible assumption | omega)
                  · refine g_aload_n rfl ?_
                    refine g_aload_n rfl ?_
                    refine g_gfi hIH5871 sx_43 rfl (fun v5919 ev5919 lv5919 uv5919 => ?_)
                    refine g_if_ne (fun c5920 => ?_) (fun c5920 => ?_)
                    · refine g_aload_n rfl ?_
                      refine g_gfi hIH5871 sx_43 rfl (fun v5921 ev5921 lv5921 uv5921 => ?_)
                      refine g_nop ?_
                      refine g_pfi hIH5871 sx_43 rfl (gz_any _) (fun H5922 eH5922 hIH5922 => ?_)
                      have hJH5922 : JX H5922 := JX_sF eH5922 hJH5871
                      have e5923 : k1_1 = fZ H5922 1 1 := by rw [eH5922, fZ_sF_nc (by first | with_reducible assumption | omega)]; exact e5872
                      have m5924 : kpX H H5922 := kpX_F m5873 eH5922 (by first | with_reducible assumption | omega)
                      refine g_aload_n rfl ?_
                      refine g_iload rfl ?_
                      refine g_pfi hIH5922 sx_43 rfl (gz_any _) (fun H5925 eH5925 hIH5925 => ?_)
                      have hJH5925 : JX H5925 := JX_sF eH5925 hJH5922
                      have e5926 : k1_1 = fZ H5925 1 1 := by rw [eH5925, fZ_sF_nc (by first | with_reducible assumption | omega)]; exact e5923
                      have m5927 : kpX H H5925 := kpX_F m5924 eH5925 (by first | with_reducible assumption | omega)
                      refine g_aload_n rfl ?_
                      refine g_dup rfl ?_
                      refine g_gfi hIH5925 sx_43 rfl (fun v5928 ev5928 lv5928 uv5928 => ?_)
                      refine g_iconst (by decide) (fun v5929 kv5929 => ?_)
                      refine g_iadd' (fun v5930 ov5930 => ?_)
                      refine g_pfi hIH5925 sx_43 rfl (gz_any _) (fun H5931 eH5931 hIH5931 => ?_)
                      have hJH5931 : JX H5931 := JX_sF eH5931 hJH5925
                      have e5932 : k1_1 = fZ H5931 1 1 := by rw [eH5931, fZ_sF_nc (by first | with_reducible assumption | omega)]; exact e5926
                      have m5933 : kpX H H5931 := kpX_F m5927 eH5931 (by first | with_reducible assumption | omega)
                      refine g_nop ?_
                      refine g_iinc (l' := (fun v5934 => [(0, .ref 43), (1, .int a1), (2, .int v5870), (3, .int v5861), (4, .int v5862), (5, .int v5934), (6, .int v5860)])) rfl rfl (by decide) (by first | with_reducible assumption | omega) (fun _ => rfl) (fun v5934 ev5934 => ?_)
                      refine g_goto ?_
                      refine gG_pick [0, 1, 2, 3, 4, 5] (l' := [(0, .ref 43), (1, .int a1), (2, .int v5870), (3, .int v5861), (4, .int v5862), (5, .int v5934)]) rfl ?_
                      exact ihL5867 v5870 v5861 v5862 v5934 H5931 hIH5931 hJH5931 e5932 m5933 (by first | with_reducible assumption | omega) (by first | with_reducible assumption | omega) (by first | with_reducible assumption | omega) (by first | with_reducible assumption | omega) (by first | with_reducible assumption | omega)
                    · refine g_iload rfl ?_
                      refine g_goto ?_
                      refine g_pfi hIH5871 sx_43 rfl (gz_any _) (fun H5935 eH5935 hIH5935 => ?_)
                      have hJH5935 : JX H5935 := JX_sF eH5935 hJH5871
                      have e5936 : k1_1 = fZ H5935 1 1 := by rw [eH5935, fZ_sF_nc (by first | with_reducible assumption | omega)]; exact e5872
                      have m5937 : kpX H H5935 := kpX_F m5873 eH5935 (by first | with_reducible assumption | omega)
                      refine g_aload_n rfl ?_
                      refine g_iload rfl ?_
                      refine g_pfi hIH5935 sx_43 rfl (gz_any _) (fun H5938 eH5938 hIH5938 => ?_)
                      have hJH5938 : JX H5938 := JX_sF eH5938 hJH5935
                      have e5939 : k1_1 = fZ H5938 1 1 := by rw [eH5938, fZ_sF_nc (by first | with_reducible assumption | omega)]; exact e5936
                      have m5940 : kpX H H5938 := kpX_F m5937 eH5938 (by first | with_reducible assumption | omega)
                      refine g_aload_n rfl ?_
                      refine g_dup rfl ?_
                      refine g_gfi hIH5938 sx_43 rfl (fun v5941 ev5941 lv5941 uv5941 => ?_)
                      refine g_iconst (by decide) (fun v5942 kv5942 => ?_)
                      refine g_iadd' (fun v5943 ov5943 => ?_)
                      refine g_pfi hIH5938 sx_43 rfl (gz_any _) (fun H5944 eH5944 hIH5944 => ?_)
                      have hJH5944 : JX H5944 := JX_sF eH5944 hJH5938
                      have e5945 : k1_1 = fZ H5944 1 1 := by rw [eH5944, fZ_sF_nc (by first | with_reducible assumption | omega)]; exact e5939
                      have m5946 : kpX H H5944 := kpX_F m5940 eH5944 (by first | with_reducible assumption | omega)
                      refine g_nop ?_
                      refine g_iinc (l' := (fun v5947 => [(0, .ref 43), (1, .int a1), (2, .int v5870), (3, .int v5861), (4, .int v5862), (5, .int v5947), (6, .int v5860)])) rfl rfl (by decide) (by first | with_reducible assumption | omega) (fun _ => rfl) (fun v5947 ev5947 => ?_)
                      refine g_goto ?_
                      refine gG_pick [0, 1, 2, 3, 4, 5] (l' := [(0, .ref 43), (1, .int a1), (2, .int v5870), (3, .int v5861), (4, .int v5862), (5, .int v5947)]) rfl ?_
                      exact ihL5867 v5870 v5861 v5862 v5947 H5944 hIH5944 hJH5944 e5945 m5946 (by first | with_reducible assumption | omega) (by first | with_reducible assumption | omega) (by first | with_reducible assumption | omega) (by first | with_reducible assumption | omega) (by first | with_reducible assumption | omega)
                · refine g_nop ?_
                  refine g_aload_n rfl ?_
                  refine g_gfr hIH5871 sx_43 rfl ?_
                  refine g_aload_n rfl ?_
                  refine g_gfr hIH5871 sx_43 rfl ?_
                  refine g_iload_n rfl ?_
                  refine g_iload rfl ?_
                  refine g_invvi hIH5871 sx_44 rfl rfl rfl rfl (s_94 44 zWo_44 3 zBo_3 a1 (by first | with_reducible assumption | omega) v5863 H5871 hIH5871 hJH5871) (fun v5950 H5948 r5949 => ?_)
                  obtain rfl := r5949
                  refine g_if_ne (fun c5951 => ?_) (fun c5951 => ?_)
                  · refine g_iconst (by decide) (fun v5952 kv5952 => ?_)
                    refine g_nop ?_
                    refine g_istore_n (l' := [(0, .ref 43), (1, .int a1), (2, .int v5870), (3, .int v5952), (4, .int v5862), (5, .int v5863), (6, .int v5860)]) rfl rfl ?_
                    refine g_nop ?_
                    refine g_iload_n rfl ?_
                    refine g_if_eq (fun c5953 => ?_) (fun c5953 => ?_)
                    · refine g_iinc (l' := (fun v5954 => [(0, .ref 43), (1, .int a1), (2, .int v5870), (3, .int v5952), (4, .int v5862), (5, .int v5954), (6, .int v5860)])) rfl rfl (by decide) (by first | with_reducible assumption | omega) (fun _ => rfl) (fun v5954 ev5954 => ?_)
                      refine g_goto ?_
                      refine gG_pick [0, 1, 2, 3, 4, 5] (l' := [(0, .ref 43), (1, .int a1), (2, .int v5870), (3, .int v5952), (4, .int v5862), (5, .int v5954)]) rfl ?_
                      exact ihL5867 v5870 v5952 v5862 v5954 H5871 hIH5871 hJH5871 e5872 m5873 (by first | with_reducible assumption | omega) (by first | with_reducible assumption | omega) (by first | with_reducible assumption | omega) (by first | with_reducible assumption | omega) (by first | with_reducible assumption | omega)
                    · exfalso; omega
                  · refine g_iconst (by decide) (fun v5955 kv5955 => ?_)
                    refine g_goto ?_
                    refine g_istore_n (l' := [(0, .ref 43), (1, .int a1), (2, .int v5870), (3, .int v5955), (4, .int v5862), (5, .int v5863), (6, .int v5860)]) rfl rfl ?_
                    refine g_nop ?_
                    refine g_iload_n rfl ?_
                    refine g_if_eq (fun c5956 => ?_) (fun c5956 => ?_)
                    · exfalso; omega
                    · refine g_aload_n rfl ?_
                      refine g_aload_n rfl ?_
                      refine g_gfi hIH5871 sx_43 rfl (fun v5957 ev5957 lv5957 uv5957 => ?_)
                      refine g_if_ne (fun c5958 => ?_) (fun c5958 => ?_)
                      · refine g_aload_n rfl ?_
                        refine g_gfi hIH5871 sx_43 rfl (fun v5959 ev5959 lv5959 uv5959 => ?_)
                        refine g_nop ?_
                        refine g_pfi hIH5871 sx_43 rfl (gz_any _) (fun H5960 eH5960 hIH5960 => ?_)
                        have hJH5960 : JX H5960 := JX_sF eH5960 hJH5871
                        have e5961 : k1_1 = fZ H5960 1 1 := by rw [eH5960, fZ_sF_nc (by first | with_reducible assumption | omega)]; exact e5872
                        have m5962 : kpX H H5960 := kpX_F m5873 eH5960 (by first | with_reducible assumption | omega)
                        refine g_aload_n rfl ?_
                        refine g_iload rfl ?_
                        refine g_pfi hIH5960 sx_43 rfl (gz_any _) (fun H5963 eH5963 hIH5963 => ?_)
                        have hJH5963 : JX H5963 := JX_sF eH5963 hJH5960
                        have e5964 : k1_1 = fZ H5963 1 1 := by rw [eH5963, fZ_sF_nc (by first | with_reducible assumption | omega)]; exact e5961
                        have m5965 : kpX H H5963 := kpX_F m5962 eH5963 (by first | with_reducible assumption | omega)
                        refine g_aload_n rfl ?_
                        refine g_dup rfl ?_
                        refine g_gfi hIH5963 sx_43 rfl (fun v5966 ev5966 lv5966 uv5966 => ?_)
                        refine g_iconst (by decide) (fun v5967 kv5967 => ?_)
                        refine g_iadd' (fun v5968 ov5968 => ?_)
                        refine g_pfi hIH5963 sx_43 rfl (gz_any _) (fun H5969 eH5969 hIH5969 => ?_)
                        have hJH5969 : JX H5969 := JX_sF eH5969 hJH5963
                        have e5970 : k1_1 = fZ H5969 1 1 := by rw [eH5969, fZ_sF_nc (by first | with_reducible assumption | omega)]; exact e5964
                        have m5971 : kpX H H5969 := kpX_F m5965 eH5969 (by first | with_reducible assumption | omega)
                        refine g_nop ?_
                        refine g_iinc (l' := (fun v5972 => [(0, .ref 43), (1, .int a1), (2, .int v5870), (3, .int v5955), (4, .int v5862), (5, .int v5972), (6, .int v5860)])) rfl rfl (by decide) (by first | with_reducible assumption | omega) (fun _ => rfl) (fun v5972 ev5972 => ?_)
                        refine g_goto ?_
                        refine gG_pick [0, 1, 2, 3, 4, 5] (l' := [(0, .ref 43), (1, .int a1), (2, .int v5870), (3, .int v5955), (4, .int v5862), (5, .int v5972)]) rfl ?_
                        exact ihL5867 v5870 v5955 v5862 v5972 H5969 hIH5969 hJH5969 e5970 m5971 (by first | with_reducible assumption | omega) (by first | with_reducible assumption | omega) (by first | with_reducible assumption | omega) (by first | with_reducible assumption | omega) (by first | with_reducible assumption | omega)
                      · refine g_iload rfl ?_
                        refine g_goto ?_
                        refine g_pfi hIH5871 sx_43 rfl (gz_any _) (fun H5973 eH5973 hIH5973 => ?_)
                        have hJH5973 : JX H5973 := JX_sF eH5973 hJH5871
                        have e5974 : k1_1 = fZ H5973 1 1 := by rw [eH5973, fZ_sF_nc (by first | with_reducible assumption | omega)]; exact e5872
                        have m5975 : kpX H H5973 := kpX_F m5873 eH5973 (by first | with_reducible assumption | omega)
                        refine g_aload_n rfl ?_
                        refine g_iload rfl ?_
                        refine g_pfi hIH5973 sx_43 rfl (gz_any _) (fun H5976 eH5976 hIH5976 => ?_)
                        have hJH5976 : JX H5976 := JX_sF eH5976 hJH5973
                        have e5977 : k1_1 = fZ H5976 1 1 := by rw [eH5976, fZ_sF_nc (by first | with_reducible assumption | omega)]; exact e5974
                        have m5978 : kpX H H5976 := kpX_F m5975 eH5976 (by first | with_reducible assumption | omega)
                        refine g_aload_n rfl ?_
                        refine g_dup rfl ?_
                        refine g_gfi hIH5976 sx_43 rfl (fun v5979 ev5979 lv5979 uv5979 => ?_)
                        refine g_iconst (by decide) (fun v5980 kv5980 => ?_)
                        refine g_iadd' (fun v5981 ov5981 => ?_)
                        refine g_pfi hIH5976 sx_43 rfl (gz_any _) (fun H5982 eH5982 hIH5982 => ?_)
                        have hJH5982 : JX H5982 := JX_sF eH5982 hJH5976
                        have e5983 : k1_1 = fZ H5982 1 1 := by rw [eH5982, fZ_sF_nc (by first | with_reducible assumption | omega)]; exact e5977
                        have m5984 : kpX H H5982 := kpX_F m5978 eH5982 (by first | with_reducible assumption | omega)
                        refine g_nop ?_
                        refine g_iinc (l' := (fun v5985 => [(0, .ref 43), (1, .int a1), (2, .int v5870), (3, .int v5955), (4, .int v5862), (5, .int v5985), (6, .int v5860)])) rfl rfl (by decide) (by first | with_reducible assumption | omega) (fun _ => rfl) (fun v5985 ev5985 => ?_)
                        refine g_goto ?_
                        refine gG_pick [0, 1, 2, 3, 4, 5] (l' := [(0, .ref 43), (1, .int a1), (2, .int v5870), (3, .int v5955), (4, .int v5862), (5, .int v5985)]) rfl ?_
                        exact ihL5867 v5870 v5955 v5862 v5985 H5982 hIH5982 hJH5982 e5983 m5984 (by first | with_reducible assumption | omega) (by first | with_reducible assumption | omega) (by first | with_reducible assumption | omega) (by first | with_reducible assumption | omega) (by first | with_reducible assumption | omega)
            · refine g_aload_n rfl ?_
              refine g_iload_n rfl ?_
              refine g_iload_n rfl ?_
              refine g_iload rfl ?_
              refine g_invvi hIH5871 sx_43 rfl rfl rfl rfl (s_36 v5870 (by first | with_reducible assumption | omega) a1 v5863 H5871 hIH5871 hJH5871) (fun v5988 H5986 r5987 => ?_)
              obtain ⟨rfl, bv5988⟩ := r5987
              refine g_if_eq (fun c5989 => ?_) (fun c5989 => ?_)
              · refine g_iload_n rfl ?_
                refine g_iload rfl ?_
                refine g_if2_ne (fun c5990 => ?_) (fun c5990 => ?_)
                · refine g_aload_n rfl ?_
                  refine g_gfr hIH5871 sx_43 rfl ?_
                  refine g_aload_n rfl ?_
                  refine g_gfr hIH5871 sx_43 rfl ?_
                  refine g_iload_n rfl ?_
                  refine g_iload rfl ?_
                  refine g_invvi hIH5871 sx_44 rfl rfl rfl rfl (s_94 44 zWo_44 3 zBo_3 a1 (by first | with_reducible assumption | omega) v5863 H5871 hIH5871 hJH5871) (fun v5993 H5991 r5992 => ?_)
                  obtain rfl := r5992
                  refine g_if_ne (fun c5994 => ?_) (fun c5994 => ?_)
                  · refine g_iconst (by decide) (fun v5995 kv5995 => ?_)
                    refine g_nop ?_
                    refine g_istore_n (l' := [(0, .ref 43), (1, .int a1), (2, .int v5870), (3, .int v5995), (4, .int v5862), (5, .int v5863), (6, .int v5860)]) rfl rfl ?_
                    refine g_nop ?_
                    refine g_iload_n rfl ?_
                    refine g_if_eq (fun c5996 => ?_) (fun c5996 => ?_)
                    · refine g_iinc (l' := (fun v5997 => [(0, .ref 43), (1, .int a1), (2, .int v5870), (3, .int v5995), (4, .int v5862), (5, .int v5997), (6, .int v5860)])) rfl rfl (by decide) (by first | with_reducible assumption | omega) (fun _ => rfl) (fun v5997 ev5997 => ?_)
                      refine g_goto ?_
                      refine gG_pick [0, 1, 2, 3, 4, 5] (l' := [(0, .ref 43), (1, .int a1), (2, .int v5870), (3, .int v5995), (4, .int v5862), (5, .int v5997)]) rfl ?_
                      exact ihL5867 v5870 v5995 v5862 v5997 H5871 hIH5871 hJH5871 e5872 m5873 (by first | with_reducible assumption | omega) (by first | with_reducible assumption | omega) (by first | with_reducible assumption | omega) (by first | with_reducible assumption | omega) (by first | with_reducible assumption | omega)
                    · exfalso; omega
                  · refine g_iconst (by decide) (fun v5998 kv5998 => ?_)
                    refine g_goto ?_
                    refine g_istore_n (l' := [(0, .ref 43), (1, .int a1), (2, .int v5870), (3, .int v5998), (4, .int v5862), (5, .int v5863), (6, .int v5860)]) rfl rfl ?_
                    refine g_nop ?_
                    refine g_iload_n rfl ?_
                    refine g_if_eq (fun c5999 => ?_) (fun c5999 => ?_)
                    · exfalso; omega
                    · refine g_aload_n rfl ?_
                      refine g_aload_n rfl ?_
                      refine g_gfi hIH5871 sx_43 rfl (fun v6000 ev6000 lv6000 uv6000 => ?_)
                      refine g_if_ne (fun c6001 => ?_) (fun c6001 => ?_)
                      · refine g_aload_n rfl ?_
                        refine g_gfi hIH5871 sx_43 rfl (fun v6002 ev6002 lv6002 uv6002 => ?_)
                        refine g_nop ?_
                        refine g_pfi hIH5871 sx_43 rfl (gz_any _) (fun H6003 eH6003 hIH6003 => ?_)
                        have hJH6003 : JX H6003 := JX_sF eH6003 hJH5871
                        have e6004 : k1_1 = fZ H6003 1 1 := by rw [eH6003, fZ_sF_nc (by first | with_reducible assumption | omega)]; exact e5872
                        have m6005 : kpX H H6003 := kpX_F m5873 eH6003 (by first | with_reducible assumption | omega)
                        refine g_aload_n rfl ?_
                        refine g_iload rfl ?_
                        refine g_pfi hIH6003 sx_43 rfl (gz_any _) (fun H6006 eH6006 hIH6006 => ?_)
                        have hJH6006 : JX H6006 := JX_sF eH6006 hJH6003
                        have e6007 : k1_1 = fZ H6006 1 1 := by rw [eH6006, fZ_sF_nc (by first | with_reducible assumption | omega)]; exact e6004
                        have m6008 : kpX H H6006 := kpX_F m6005 eH6006 (by first | with_reducible assumption | omega)
                        refine g_aload_n rfl ?_
                        refine g_dup rfl ?_
                        refine g_gfi hIH6006 sx_43 rfl (fun v6009 ev6009 lv6009 uv6009 => ?_)
                        refine g_iconst (by decide) (fun v6010 kv6010 => ?_)
                        refine g_iadd' (fun v6011 ov6011 => ?_)
                        refine g_pfi hIH6006 sx_43 rfl (gz_any _) (fun H6012 eH6012 hIH6012 => ?_)
                        have hJH6012 : JX H6012 := JX_sF eH6012 hJH6006
                        have e6013 : k1_1 = fZ H6012 1 1 := by rw [eH6012, fZ_sF_nc (by first | with_reducible assumption | omega)]; exact e6007
                        have m6014 : kpX H H6012 := kpX_F m6008 eH6012 (by first | with_reducible assumption | omega)
                        refine g_nop ?_
                        refine g_iinc (l' := (fun v6015 => [(0, .ref 43), (1, .int a1), (2, .int v5870), (3, .int v5998), (4, .int v5862), (5, .int v6015), (6, .int v5860)])) rfl rfl (by decide) (by first | with_reducible assumption | omega) (fun _ => rfl) (fun v6015 ev6015 => ?_)
                        refine g_goto ?_
                        refine gG_pick [0, 1, 2, 3, 4, 5] (l' := [(0, .ref 43), (1, .int a1), (2, .int v5870), (3, .int v5998), (4, .int v5862), (5, .int v6015)]) rfl ?_
                        exact ihL5867 v5870 v5998 v5862 v6015 H6012 hIH6012 hJH6012 e6013 m6014 (by first | with_reducible assumption | omega) (by first | with_reducible assumption | omega) (by first | with_reducible assumption | omega) (by first | with_reducible assumption | omega) (by first | with_reducible assumption | omega)
                      · refine g_iload rfl ?_
                        refine g_goto ?_
                        refine g_pfi hIH5871 sx_43 rfl (gz_any _) (fun H6016 eH6016 hIH6016 => ?_)
                        have hJH6016 : JX H6016 := JX_sF eH6016 hJH5871
                        have e6017 : k1_1 = fZ H6016 1 1 := by rw [eH6016, fZ_sF_nc (by first | with_reducible assumption | omega)]; exact e5872
                        have m6018 : kpX H H6016 := kpX_F m5873 eH6016 (by first | with_reducible assumption | omega)
                        refine g_aload_n rfl ?_
                        refine g_iload rfl ?_
                        refine g_pfi hIH6016 sx_43 rfl (gz_any _) (fun H6019 eH6019 hIH6019 => ?_)
                        have hJH6019 : JX H6019 := JX_sF eH6019 hJH6016
                        have e6020 : k1_1 = fZ H6019 1 1 := by rw [eH6019, fZ_sF_nc (by first | with_reducible assumption | omega)]; exact e6017
                        have m6021 : kpX H H6019 := kpX_F m6018 eH6019 (by first | with_reducible assumption | omega)
                        refine g_aload_n rfl ?_
                        refine g_dup rfl ?_
                        refine g_gfi hIH6019 sx_43 rfl (fun v6022 ev6022 lv6022 uv6022 => ?_)
                        refine g_iconst (by decide) (fun v6023 kv6023 => ?_)
                        refine g_iadd' (fun v6024 ov6024 => ?_)
                        refine g_pfi hIH6019 sx_43 rfl (gz_any _) (fun H6025 eH6025 hIH6025 => ?_)
                        have hJH6025 : JX H6025 := JX_sF eH6025 hJH6019
                        have e6026 : k1_1 = fZ H6025 1 1 := by rw [eH6025, fZ_sF_nc (by first | with_reducible assumption | omega)]; exact e6020
                        have m6027 : kpX H H6025 := kpX_F m6021 eH6025 (by first | with_reducible assumption | omega)
                        refine g_nop ?_
                        refine g_iinc (l' := (fun v6028 => [(0, .ref 43), (1, .int a1), (2, .int v5870), (3, .int v5998), (4, .int v5862), (5, .int v6028), (6, .int v5860)])) rfl rfl (by decide) (by first | with_reducible assumption | omega) (fun _ => rfl) (fun v6028 ev6028 => ?_)
                        refine g_goto ?_
                        refine gG_pick [0, 1, 2, 3, 4, 5] (l' := [(0, .ref 43), (1, .int a1), (2, .int v5870), (3, .int v5998), (4, .int v5862), (5, .int v6028)]) rfl ?_
                        exact ihL5867 v5870 v5998 v5862 v6028 H6025 hIH6025 hJH6025 e6026 m6027 (by first | with_reducible assumption | omega) (by first | with_reducible assumption | omega) (by first | with_reducible assumption | omega) (by first | with_reducible assumption | omega) (by first | with_reducible assumption | omega)
                · refine g_iload rfl ?_
                  refine g_if_eq (fun c6029 => ?_) (fun c6029 => ?_)
                  · refine g_iload_n rfl ?_
                    refine g_if_eq (fun c6030 => ?_) (fun c6030 => ?_)
                    · refine g_iinc (l' := (fun v6031 => [(0, .ref 43), (1, .int a1), (2, .int v5870), (3, .int v5861), (4, .int v5862), (5, .int v6031), (6, .int v5860)])) rfl rfl (by decide) (by first | with_reducible assumption | omega) (fun _ => rfl) (fun v6031 ev6031 => ?_)
                      refine g_goto ?_
                      refine gG_pick [0, 1, 2, 3, 4, 5] (l' := [(0, .ref 43), (1, .int a1), (2, .int v5870), (3, .int v5861), (4, .int v5862), (5, .int v6031)]) rfl ?_
                      exact ihL5867 v5870 v5861 v5862 v6031 H5871 hIH5871 hJH5871 e5872 m5873 (by first | with_reducible assumption | omega) (by first | with_reducible assumption | omega) (by first | with_reducible assumption | omega) (by first | with_reducible assumption | omega) (by first | with_reducible assumption | omega)
                    · refine g_aload_n rfl ?_
                      refine g_aload_n rfl ?_
                      refine g_gfi hIH5871 sx_43 rfl (fun v6032 ev6032 lv6032 uv6032 => ?_)
                      refine g_if_ne (fun c6033 => ?_) (fun c6033 => ?_)
                      · refine g_aload_n rfl ?_
                        refine g_gfi hIH5871 sx_43 rfl (fun v6034 ev6034 lv6034 uv6034 => ?_)
                        refine g_nop ?_
                        refine g_pfi hIH5871 sx_43 rfl (gz_any _) (fun H6035 eH6035 hIH6035 => ?_)
                        have hJH6035 : JX H6035 := JX_sF eH6035 hJH5871
                        have e6036 : k1_1 = fZ H6035 1 1 := by rw [eH6035, fZ_sF_nc (by first | with_reducible assumption | omega)]; exact e5872
                        have m6037 : kpX H H6035 := kpX_F m5873 eH6035 (by first | with_reducible assumption | omega)
                        refine g_aload_n rfl ?_
                        refine g_iload rfl ?_
                        refine g_pfi hIH6035 sx_43 rfl (gz_any _) (fun H6038 eH6038 hIH6038 => ?_)
                        have hJH6038 : JX H6038 := JX_sF eH6038 hJH6035
                        have e6039 : k1_1 = fZ H6038 1 1 := by rw [eH6038, fZ_sF_nc (by first | with_reducible assumption | omega)]; exact e6036
                        have m6040 : kpX H H6038 := kpX_F m6037 eH6038 (by first | with_reducible assumption | omega)
                        refine g_aload_n rfl ?_
                        refine g_dup rfl ?_
                        refine g_gfi hIH6038 sx_43 rfl (fun v6041 ev6041 lv6041 uv6041 => ?_)
                        refine g_iconst (by decide) (fun v6042 kv6042 => ?_)
                        refine g_iadd' (fun v6043 ov6043 => ?_)
                        refine g_pfi hIH6038 sx_43 rfl (gz_any _) (fun H6044 eH6044 hIH6044 => ?_)
                        have hJH6044 : JX H6044 := JX_sF eH6044 hJH6038
                        have e6045 : k1_1 = fZ H6044 1 1 := by rw [eH6044, fZ_sF_nc (by first | with_reducible assumption | omega)]; exact e6039
                        have m6046 : kpX H H6044 := kpX_F m6040 eH6044 (by first | with_reducible assumption | omega)
                        refine g_nop ?_
                        refine g_iinc (l' := (fun v6047 => [(0, .ref 43), (1, .int a1), (2, .int v5870), (3, .int v5861), (4, .int v5862), (5, .int v6047), (6, .int v5860)])) rfl rfl (by decide) (by first | with_reducible assumption | omega) (fun _ => rfl) (fun v6047 ev6047 => ?_)
                        refine g_goto ?_
                        refine gG_pick [0, 1, 2, 3, 4, 5] (l' := [(0, .ref 43), (1, .int a1), (2, .int v5870), (3, .int v5861), (4, .int v5862), (5, .int v6047)]) rfl ?_
                        exact ihL5867 v5870 v5861 v5862 v6047 H6044 hIH6044 hJH6044 e6045 m6046 (by first | with_reducible assumption | omega) (by first | with_reducible assumption | omega) (by first | with_reducible assumption | omega) (by first | with_reducible assumption | omega) (by first | with_reducible assumption | omega)
                      · refine g_iload rfl ?_
                        refine g_goto ?_
                        refine g_pfi hIH5871 sx_43 rfl (gz_any _) (fun H6048 eH6048 hIH6048 => ?_)
                        have hJH6048 : JX H6048 := JX_sF eH6048 hJH5871
                        have e6049 : k1_1 = fZ H6048 1 1 := by rw [eH6048, fZ_sF_nc (by first | with_reducible assumption | omega)]; exact e5872
                        have m6050 : kpX H H6048 := kpX_F m5873 eH6048 (by first | with_reducible assumption | omega)
                        refine g_aload_n rfl ?_
                        refine g_iload rfl ?_
                        refine g_pfi hIH6048 sx_43 rfl (gz_any _) (fun H6051 eH6051 hIH6051 => ?_)
                        have hJH6051 : JX H6051 := JX_sF eH6051 hJH6048
                        have e6052 : k1_1 = fZ H6051 1 1 := by rw [eH6051, fZ_sF_nc (by first | with_reducible assumption | omega)]; exact e6049
                        have m6053 : kpX H H6051 := kpX_F m6050 eH6051 (by first | with_reducible assumption | omega)
                        refine g_aload_n rfl ?_
                        refine g_dup rfl ?_
                        refine g_gfi hIH6051 sx_43 rfl (fun v6054 ev6054 lv6054 uv6054 => ?_)
                        refine g_iconst (by decide) (fun v6055 kv6055 => ?_)
                        refine g_iadd' (fun v6056 ov6056 => ?_)
                        refine g_pfi hIH6051 sx_43 rfl (gz_any _) (fun H6057 eH6057 hIH6057 => ?_)
                        have hJH6057 : JX H6057 := JX_sF eH6057 hJH6051
                        have e6058 : k1_1 = fZ H6057 1 1 := by rw [eH6057, fZ_sF_nc (by first | with_reducible assumption | omega)]; exact e6052
                        have m6059 : kpX H H6057 := kpX_F m6053 eH6057 (by first | with_reducible assumption | omega)
                        refine g_nop ?_
                        refine g_iinc (l' := (fun v6060 => [(0, .ref 43), (1, .int a1), (2, .int v5870), (3, .int v5861), (4, .int v5862), (5, .int v6060), (6, .int v5860)])) rfl rfl (by decide) (by first | with_reducible assumption | omega) (fun _ => rfl) (fun v6060 ev6060 => ?_)
                        refine g_goto ?_
                        refine gG_pick [0, 1, 2, 3, 4, 5] (l' := [(0, .ref 43), (1, .int a1), (2, .int v5870), (3, .int v5861), (4, .int v5862), (5, .int v6060)]) rfl ?_
                        exact ihL5867 v5870 v5861 v5862 v6060 H6057 hIH6057 hJH6057 e6058 m6059 (by first | with_reducible assumption | omega) (by first | with_reducible assumption | omega) (by first | with_reducible assumption | omega) (by first | with_reducible assumption | omega) (by first | with_reducible assumption | omega)
                  · refine g_nop ?_
                    refine g_aload_n rfl ?_
                    refine g_gfr hIH5871 sx_43 rfl ?_
                    refine g_aload_n rfl ?_
                    refine g_gfr hIH5871 sx_43 rfl ?_
                    refine g_iload_n rfl ?_
                    refine g_iload rfl ?_
                    refine g_invvi hIH5871 sx_44 rfl rfl rfl rfl (s_94 44 zWo_44 3 zBo_3 a1 (by first | with_reducible assumption | omega) v5863 H5871 hIH5871 hJH5871) (fun v6063 H6061 r6062 => ?_)
                    obtain rfl := r6062
                    refine g_if_ne (fun c6064 => ?_) (fun c6064 => ?_)
                    · refine g_iconst (by decide) (fun v6065 kv6065 => ?_)
                      refine g_nop ?_
                      refine g_istore_n (l' := [(0, .ref 43), (1, .int a1), (2, .int v5870), (3, .int v6065), (4, .int v5862), (5, .int v5863), (6, .int v5860)]) rfl rfl ?_
                      refine g_nop ?_
                      refine g_iload_n rfl ?_
                      refine g_if_eq (fun c6066 => ?_) (fun c6066 => ?_)
                      · refine g_iinc (l' := (fun v6067 => [(0, .ref 43), (1, .int a1), (2, .int v5870), (3, .int v6065), (4, .int v5862), (5, .int v6067), (6, .int v5860)])) rfl rfl (by decide) (by first | with_reducible assumption | omega) (fun _ => rfl) (fun v6067 ev6067 => ?_)
                        refine g_goto ?_
                        refine gG_pick [0, 1, 2, 3, 4, 5] (l' := [(0, .ref 43), (1, .int a1), (2, .int v5870), (3, .int v6065), (4, .int v5862), (5, .int v6067)]) rfl ?_
                        exact ihL5867 v5870 v6065 v5862 v6067 H5871 hIH5871 hJH5871 e5872 m5873 (by first | with_reducible assumption | omega) (by first | with_reducible assumption | omega) (by first | with_reducible assumption | omega) (by first | with_reducible assumption | omega) (by first | with_reducible assumption | omega)
                      · exfalso; omega
                    · refine g_iconst (by decide) (fun v6068 kv6068 => ?_)
                      refine g_goto ?_
                      refine g_istore_n (l' := [(0, .ref 43), (1, .int a1), (2, .int v5870), (3, .int v6068), (4, .int v5862), (5, .int v5863), (6, .int v5860)]) rfl rfl ?_
                      refine g_nop ?_
                      refine g_iload_n rfl ?_
                      refine g_if_eq (fun c6069 => ?_) (fun c6069 => ?_)
                      · exfalso; omega
                      · refine g_aload_n rfl ?_
                        refine g_aload_n rfl ?_
                        refine g_gfi hIH5871 sx_43 rfl (fun v6070 ev6070 lv6070 uv6070 => ?_)
                        refine g_if_ne (fun c6071 => ?_) (fun c6071 => ?_)
                        · refine g_aload_n rfl ?_
                          refine g_gfi hIH5871 sx_43 rfl (fun v6072 ev6072 lv6072 uv6072 => ?_)
                          refine g_nop ?_
                          refine g_pfi hIH5871 sx_43 rfl (gz_any _) (fun H6073 eH6073 hIH6073 => ?_)
                          have hJH6073 : JX H6073 := JX_sF eH6073 hJH5871
                          have e6074 : k1_1 = fZ H6073 1 1 := by rw [eH6073, fZ_sF_nc (by first | with_reducible assumption | omega)]; exact e5872
                          have m6075 : kpX H H6073 := kpX_F m5873 eH6073 (by first | with_reducible assumption | omega)
                          refine g_aload_n rfl ?_
                          refine g_iload rfl ?_
                          refine g_pfi hIH6073 sx_43 rfl (gz_any _) (fun H6076 eH6076 hIH6076 => ?_)
                          have hJH6076 : JX H6076 := JX_sF eH6076 hJH6073
                          have e6077 : k1_1 = fZ H6076 1 1 := by rw [eH6076, fZ_sF_nc (by first | with_reducible assumption | omega)]; exact e6074
                          have m6078 : kpX H H6076 := kpX_F m6075 eH6076 (by first | with_reducible assumption | omega)
                          refine g_aload_n rfl ?_
                          refine g_dup rfl ?_
                          refine g_gfi hIH6076 sx_43 rfl (fun v6079 ev6079 lv6079 uv6079 => ?_)
                          refine g_iconst (by decide) (fun v6080 kv6080 => ?_)
                          refine g_iadd' (fun v6081 ov6081 => ?_)
                          refine g_pfi hIH6076 sx_43 rfl (gz_any _) (fun H6082 eH6082 hIH6082 => ?_)
                          have hJH6082 : JX H6082 := JX_sF eH6082 hJH6076
                          have e6083 : k1_1 = fZ H6082 1 1 := by rw [eH6082, fZ_sF_nc (by first | with_reducible assumption | omega)]; exact e6077
                          have m6084 : kpX H H6082 := kpX_F m6078 eH6082 (by first | with_reducible assumption | omega)
                          refine g_nop ?_
                          refine g_iinc (l' := (fun v6085 => [(0, .ref 43), (1, .int a1), (2, .int v5870), (3, .int v6068), (4, .int v5862), (5, .int v6085), (6, .int v5860)])) rfl rfl (by decide) (by first | with_reducible assumption | omega) (fun _ => rfl) (fun v6085 ev6085 => ?_)
                          refine g_goto ?_
                          refine gG_pick [0, 1, 2, 3, 4, 5] (l' := [(0, .ref 43), (1, .int a1), (2, .int v5870), (3, .int v6068), (4, .int v5862), (5, .int v6085)]) rfl ?_
                          exact ihL5867 v5870 v6068 v5862 v6085 H6082 hIH6082 hJH6082 e6083 m6084 (by first | with_reducible assumption | omega) (by first | with_reducible assumption | omega) (by first | with_reducible assumption | omega) (by first | with_reducible assumption | omega) (by first | with_reducible assumption | omega)
                        · refine g_iload rfl ?_
                          refine g_goto ?_
                          refine g_pfi hIH5871 sx_43 rfl (gz_any _) (fun H6086 eH6086 hIH6086 => ?_)
                          have hJH6086 : JX H6086 := JX_sF eH6086 hJH5871
                          have e6087 : k1_1 = fZ H6086 1 1 := by rw [eH6086, fZ_sF_nc (by first | with_reducible assumption | omega)]; exact e5872
                          have m6088 : kpX H H6086 := kpX_F m5873 eH6086 (by first | with_reducible assumption | omega)
                          refine g_aload_n rfl ?_
                          refine g_iload rfl ?_
                          refine g_pfi hIH6086 sx_43 rfl (gz_any _) (fun H6089 eH6089 hIH6089 => ?_)
                          have hJH6089 : JX H6089 := JX_sF eH6089 hJH6086
                          have e6090 : k1_1 = fZ H6089 1 1 := by rw [eH6089, fZ_sF_nc (by first | with_reducible assumption | omega)]; exact e6087
                          have m6091 : kpX H H6089 := kpX_F m6088 eH6089 (by first | with_reducible assumption | omega)
                          refine g_aload_n rfl ?_
                          refine g_dup rfl ?_
                          refine g_gfi hIH6089 sx_43 rfl (fun v6092 ev6092 lv6092 uv6092 => ?_)
                          refine g_iconst (by decide) (fun v6093 kv6093 => ?_)
                          refine g_iadd' (fun v6094 ov6094 => ?_)
                          refine g_pfi hIH6089 sx_43 rfl (gz_any _) (fun H6095 eH6095 hIH6095 => ?_)
                          have hJH6095 : JX H6095 := JX_sF eH6095 hJH6089
                          have e6096 : k1_1 = fZ H6095 1 1 := by rw [eH6095, fZ_sF_nc (by first | with_reducible assumption | omega)]; exact e6090
                          have m6097 : kpX H H6095 := kpX_F m6091 eH6095 (by first | with_reducible assumption | omega)
                          refine g_nop ?_
                          refine g_iinc (l' := (fun v6098 => [(0, .ref 43), (1, .int a1), (2, .int v5870), (3, .int v6068), (4, .int v5862), (5, .int v6098), (6, .int v5860)])) rfl rfl (by decide) (by first | with_reducible assumption | omega) (fun _ => rfl) (fun v6098 ev6098 => ?_)
                          refine g_goto ?_
                          refine gG_pick [0, 1, 2, 3, 4, 5] (l' := [(0, .ref 43), (1, .int a1), (2, .int v5870), (3, .int v6068), (4, .int v5862), (5, .int v6098)]) rfl ?_
                          exact ihL5867 v5870 v6068 v5862 v6098 H6095 hIH6095 hJH6095 e6096 m6097 (by first | with_reducible assumption | omega) (by first | with_reducible assumption | omega) (by first | with_reducible assumption | omega) (by first | with_reducible assumption | omega) (by first | with_reducible assumption | omega)
              · refine g_aload_n rfl ?_
                refine g_gfr hIH5871 sx_43 rfl ?_
                refine g_gfr hIH5871 sx_24 rfl ?_
                refine g_gfr hIH5871 sx_25 rfl ?_
                refine g_iload_n rfl ?_
                refine g_iaload hIH5871 sx_27 rfl (by first | with_reducible assumption | omega) (fun v6099 ev6099 lv6099 uv6099 => ?_)
                refine g_istore (l' := [(0, .ref 43), (1, .int a1), (2, .int v5870), (3, .int v5861), (4, .int v5862), (5, .int v5863), (6, .int v5860), (7, .int v6099)]) rfl rfl ?_
                refine g_iload rfl ?_
                refine g_iload_n rfl ?_
                refine g_if2_eq (fun c6100 => ?_) (fun c6100 => ?_)
                · refine g_iinc (l' := (fun v6101 => [(0, .ref 43), (1, .int a1), (2, .int v6101), (3, .int v5861), (4, .int v5862), (5, .int v5863), (6, .int v5860), (7, .int v6099)])) rfl rfl (by decide) (by first | with_reducible assumption | omega) (fun _ => rfl) (fun v6101 ev6101 => ?_)
                  refine g_goto ?_
                  refine gG_pick [0, 1, 2, 3, 4, 5, 6] (l' := [(0, .ref 43), (1, .int a1), (2, .int v6101), (3, .int v5861), (4, .int v5862), (5, .int v5863), (6, .int v5860)]) rfl ?_
                  exact ihL5874 v6101 H5871 hIH5871 hJH5871 e5872 m5873 (by first | with_reducible assumption | omega) (by first | with_reducible assumption | omega)
                · refine g_aload_n rfl ?_
                  refine g_gfr hIH5871 sx_43 rfl ?_
                  refine g_aload_n rfl ?_
                  refine g_gfr hIH5871 sx_43 rfl ?_
                  refine g_iload rfl ?_
                  refine g_aload_n rfl ?_
                  refine g_gfr hIH5871 sx_43 rfl ?_
                  refine g_gfr hIH5871 sx_3 rfl ?_
                  refine g_iload rfl ?_
                  refine g_iaload hIH5871 sx_6 rfl (by first | with_reducible assumption | omega) (fun v6102 ev6102 lv6102 uv6102 => ?_)
                  refine g_invvi hIH5871 sx_44 rfl rfl rfl rfl (s_93 44 zWo_44 3 zBo_3 v6099 (by first | with_reducible assumption | omega) v6102 H5871 hIH5871 hJH5871) (fun v6105 H6103 r6104 => ?_)
                  obtain ⟨hIH6103, hJH6103, w6106, m6107⟩ := r6104
                  have e6108 : k1_1 = fZ H6103 1 1 := e5872.trans w6106.symm
                  have m6109 : kpX H H6103 := kpX_t m5873 m6107
                  refine g_pop rfl ?_
                  refine g_nop ?_
                  refine g_iinc (l' := (fun v6110 => [(0, .ref 43), (1, .int a1), (2, .int v6110), (3, .int v5861), (4, .int v5862), (5, .int v5863), (6, .int v5860), (7, .int v6099)])) rfl rfl (by decide) (by first | with_reducible assumption | omega) (fun _ => rfl) (fun v6110 ev6110 => ?_)
                  refine g_goto ?_
                  refine gG_pick [0, 1, 2, 3, 4, 5, 6] (l' := [(0, .ref 43), (1, .int a1), (2, .int v6110), (3, .int v5861), (4, .int v5862), (5, .int v5863), (6, .int v5860)]) rfl ?_
                  exact ihL5874 v6110 H6103 hIH6103 hJH6103 e6108 m6109 (by first | with_reducible assumption | omega) (by first | with_reducible assumption | omega)
        exact L5874 _ v5860 H5864 hIH5864 hJH5864 e5865 m5866 (by first | with_reducible assumption | omega) (Nat.lt_succ_self _)
  refine g_aload_n rfl ?_
  refine g_bipush (by decide) (fun v6111 kv6111 => ?_)
  refine g_pfi hI sx_43 rfl (gz_any _) (fun H6112 eH6112 hIH6112 => ?_)
  have hJH6112 : JX H6112 := JX_sF eH6112 hJ
  have e6113 : k1_1 = fZ H6112 1 1 := by rw [eH6112, fZ_sF_nc (by first | with_reducible assumption | omega)]; exact ek1_1
  have m6114 : kpX H H6112 := kpX_F mkfr eH6112 (by first | with_reducible assumption | omega)
  refine g_aload_n rfl ?_
  refine g_bipush (by decide) (fun v6115 kv6115 => ?_)
  refine g_pfi hIH6112 sx_43 rfl (gz_any _) (fun H6116 eH6116 hIH6116 => ?_)
  have hJH6116 : JX H6116 := JX_sF eH6116 hJH6112
  have e6117 : k1_1 = fZ H6116 1 1 := by rw [eH6116, fZ_sF_nc (by first | with_reducible assumption | omega)]; exact e6113
  have m6118 : kpX H H6116 := kpX_F m6114 eH6116 (by first | with_reducible assumption | omega)
  refine g_aload_n rfl ?_
  refine g_iconst (by decide) (fun v6119 kv6119 => ?_)
  refine g_pfi hIH6116 sx_43 rfl (gz_any _) (fun H6120 eH6120 hIH6120 => ?_)
  have hJH6120 : JX H6120 := JX_sF eH6120 hJH6116
  have e6121 : k1_1 = fZ H6120 1 1 := by rw [eH6120, fZ_sF_nc (by first | with_reducible assumption | omega)]; exact e6117
  have m6122 : kpX H H6120 := kpX_F m6118 eH6120 (by first | with_reducible assumption | omega)
  refine g_aload_n rfl ?_
  refine g_gfr hIH6120 sx_43 rfl ?_
  refine g_invvv hIH6120 sx_44 rfl rfl rfl rfl (s_83 44 zWo_44 H6120 hIH6120 hJH6120) (fun H6123 r6124 => ?_)
  obtain ⟨hIH6123, hJH6123, w6125, m6126⟩ := r6124
  have e6127 : k1_1 = fZ H6123 1 1 := e6121.trans w6125.symm
  have m6128 : kpX H H6123 := kpX_t m6122 m6126
  refine g_iconst (by decide) (fun v6129 kv6129 => ?_)
  refine g_istore_n (l' := [(0, .ref 43), (1, .int a1), (2, .int v6129)]) rfl rfl ?_
  refine g_aload_n rfl ?_
  refine g_gfr hIH6123 sx_43 rfl ?_
  refine g_aload_n rfl ?_
  refine g_gfr hIH6123 sx_43 rfl ?_
  refine g_iload_n rfl ?_
  refine g_iconst (by decide) (fun v6130 kv6130 => ?_)
  refine g_invvi hIH6123 sx_44 rfl rfl rfl rfl (s_94 44 zWo_44 3 zBo_3 a1 (by first | with_reducible assumption | omega) v6130 H6123 hIH6123 hJH6123) (fun v6133 H6131 r6132 => ?_)
  obtain rfl := r6132
  refine g_if_ne (fun c6134 => ?_) (fun c6134 => ?_)
  · refine g_iconst (by decide) (fun v6135 kv6135 => ?_)
    refine g_nop ?_
    refine g_istore_n (l' := [(0, .ref 43), (1, .int a1), (2, .int v6129), (3, .int v6135)]) rfl rfl ?_
    refine g_aload_n rfl ?_
    refine g_gfr hIH6123 sx_43 rfl ?_
    refine g_gfr hIH6123 sx_3 rfl ?_
    refine g_iload_n rfl ?_
    refine g_iaload hIH6123 sx_7 rfl (by first | with_reducible assumption | omega) (fun v6136 ev6136 lv6136 uv6136 => ?_)
    refine g_iconst (by decide) (fun v6137 kv6137 => ?_)
    refine g_if2_eq (fun c6138 => ?_) (fun c6138 => ?_)
    · refine g_iconst (by decide) (fun v6139 kv6139 => ?_)
      refine g_goto ?_
      refine g_istore (l' := [(0, .ref 43), (1, .int a1), (2, .int v6129), (3, .int v6135), (4, .int v6139)]) rfl rfl ?_
      refine g_iconst (by decide) (fun v6140 kv6140 => ?_)
      refine g_istore (l' := [(0, .ref 43), (1, .int a1), (2, .int v6129), (3, .int v6135), (4, .int v6139), (5, .int v6140)]) rfl rfl ?_
      refine g_nop ?_
      exact L5867 _ v6129 v6135 v6139 v6140 H6123 hIH6123 hJH6123 e6127 m6128 (by first | with_reducible assumption | omega) (by first | with_reducible assumption | omega) (by first | with_reducible assumption | omega) (by first | with_reducible assumption | omega) (Nat.lt_succ_self _)
    · refine g_aload_n rfl ?_
      refine g_gfr hIH6123 sx_43 rfl ?_
      refine g_gfr hIH6123 sx_3 rfl ?_
      refine g_iload_n rfl ?_
      refine g_ialoadk hIH6123 sx_7 rfl (by first | with_reducible assumption | omega) ev6136 ?_
      refine g_bipush (by decide) (fun v6141 kv6141 => ?_)
      refine g_if2_ne (fun c6142 => ?_) (fun c6142 => ?_)
      · refine g_iconst (by decide) (fun v6143 kv6143 => ?_)
        refine g_nop ?_
        refine g_istore (l' := [(0, .ref 43), (1, .int a1), (2, .int v6129), (3, .int v6135), (4, .int v6143)]) rfl rfl ?_
        refine g_iconst (by decide) (fun v6144 kv6144 => ?_)
        refine g_istore (l' := [(0, .ref 43), (1, .int a1), (2, .int v6129), (3, .int v6135), (4, .int v6143), (5, .int v6144)]) rfl rfl ?_
        refine g_nop ?_
        exact L5867 _ v6129 v6135 v6143 v6144 H6123 hIH6123 hJH6123 e6127 m6128 (by first | with_reducible assumption | omega) (by first | with_reducible assumption | omega) (by first | with_reducible assumption | omega) (by first | with_reducible assumption | omega) (Nat.lt_succ_self _)
      · refine g_nop ?_
        refine g_iconst (by decide) (fun v6145 kv6145 => ?_)
        refine g_goto ?_
        refine g_istore (l' := [(0, .ref 43), (1, .int a1), (2, .int v6129), (3, .int v6135), (4, .int v6145)]) rfl rfl ?_
        refine g_iconst (by decide) (fun v6146 kv6146 => ?_)
        refine g_istore (l' := [(0, .ref 43), (1, .int a1), (2, .int v6129), (3, .int v6135), (4, .int v6145), (5, .int v6146)]) rfl rfl ?_
        refine g_nop ?_
        exact L5867 _ v6129 v6135 v6145 v6146 H6123 hIH6123 hJH6123 e6127 m6128 (by first | with_reducible assumption | omega) (by first | with_reducible assumption | omega) (by first | with_reducible assumption | omega) (by first | with_reducible assumption | omega) (Nat.lt_succ_self _)
  · refine g_iconst (by decide) (fun v6147 kv6147 => ?_)
    refine g_goto ?_
    refine g_istore_n (l' := [(0, .ref 43), (1, .int a1), (2, .int v6129), (3, .int v6147)]) rfl rfl ?_
    refine g_aload_n rfl ?_
    refine g_gfr hIH6123 sx_43 rfl ?_
    refine g_gfr hIH6123 sx_3 rfl ?_
    refine g_iload_n rfl ?_
    refine g_iaload hIH6123 sx_7 rfl (by first | with_reducible assumption | omega) (fun v6148 ev6148 lv6148 uv6148 => ?_)
    refine g_iconst (by decide) (fun v6149 kv6149 => ?_)
    refine g_if2_eq (fun c6150 => ?_) (fun c6150 => ?_)
    · refine g_iconst (by decide) (fun v6151 kv6151 => ?_)
      refine g_goto ?_
      refine g_istore (l' := [(0, .ref 43), (1, .int a1), (2, .int v6129), (3, .int v6147), (4, .int v6151)]) rfl rfl ?_
      refine g_iconst (by decide) (fun v6152 kv6152 => ?_)
      refine g_istore (l' := [(0, .ref 43), (1, .int a1), (2, .int v6129), (3, .int v6147), (4, .int v6151), (5, .int v6152)]) rfl rfl ?_
      refine g_nop ?_
      exact L5867 _ v6129 v6147 v6151 v6152 H6123 hIH6123 hJH6123 e6127 m6128 (by first | with_reducible assumption | omega) (by first | with_reducible assumption | omega) (by first | with_reducible assumption | omega) (by first | with_reducible assumption | omega) (Nat.lt_succ_self _)
    · refine g_aload_n rfl ?_
      refine g_gfr hIH6123 sx_43 rfl ?_
      refine g_gfr hIH6123 sx_3 rfl ?_
      refine g_iload_n rfl ?_
      refine g_ialoadk hIH6123 sx_7 rfl (by first | with_reducible assumption | omega) ev6148 ?_
      refine g_bipush (by decide) (fun v6153 kv6153 => ?_)
      refine g_if2_ne (fun c6154 => ?_) (fun c6154 => ?_)
      · refine g_iconst (by decide) (fun v6155 kv6155 => ?_)
        refine g_nop ?_
        refine g_istore (l' := [(0, .ref 43), (1, .int a1), (2, .int v6129), (3, .int v6147), (4, .int v6155)]) rfl rfl ?_
        refine g_iconst (by decide) (fun v6156 kv6156 => ?_)
        refine g_istore (l' := [(0, .ref 43), (1, .int a1), (2, .int v6129), (3, .int v6147), (4, .int v6155), (5, .int v6156)]) rfl rfl ?_
        refine g_nop ?_
        exact L5867 _ v6129 v6147 v6155 v6156 H6123 hIH6123 hJH6123 e6127 m6128 (by first | with_reducible assumption | omega) (by first | with_reducible assumption | omega) (by first | with_reducible assumption | omega) (by first | with_reducible assumption | omega) (Nat.lt_succ_self _)
      · refine g_nop ?_
        refine g_iconst (by decide) (fun v6157 kv6157 => ?_)
        refine g_goto ?_
        refine g_istore (l' := [(0, .ref 43), (1, .int a1), (2, .int v6129), (3, .int v6147), (4, .int v6157)]) rfl rfl ?_
        refine g_iconst (by decide) (fun v6158 kv6158 => ?_)
        refine g_istore (l' := [(0, .ref 43), (1, .int a1), (2, .int v6129), (3, .int v6147), (4, .int v6157), (5, .int v6158)]) rfl rfl ?_
        refine g_nop ?_
        exact L5867 _ v6129 v6147 v6157 v6158 H6123 hIH6123 hJH6123 e6127 m6128 (by first | with_reducible assumption | omega) (by first | with_reducible assumption | omega) (by first | with_reducible assumption | omega) (by first | with_reducible assumption | omega) (Nat.lt_succ_self _)
