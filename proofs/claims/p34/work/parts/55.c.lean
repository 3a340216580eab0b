set_option maxRecDepth 4000 in
set_option maxHeartbeats 4000000 in
/-- X5.step -/
theorem s_53 (a1 : Int32) (ha1 : 0 ≤ a1.toInt ∧ a1.toInt ≤ 59) (H : mzH) (hI : gI SX H) (hJ : JX H) : gCall 53 [.ref 24, .int a1] H (gRi (fun v H' => gI SX H' ∧ JX H' ∧ fZ H' 1 1 = fZ H 1 1 ∧ kpX H H')) := by
  obtain ⟨k1_1, ek1_1⟩ : ∃ z, z = fZ H 1 1 := ⟨_, rfl⟩
  have ik1_1 : k1_1.toInt = (fZ H 1 1).toInt := by rw [← ek1_1]
  have bk1_1 : 0 ≤ k1_1.toInt ∧ k1_1.toInt ≤ 900 := by rw [ek1_1]; exact fZ_of hI sx_1 rfl
  have mkfr : kpX H H := kpX_r
  refine gG_call [(0, .ref 24), (1, .int a1)] ⟨rfl, rfl, trivial⟩ ?_
  show gG 2 zB_53 (mzBlk zB_53 0) [(0, .ref 24), (1, .int a1)] [] H 0 0 _
  refine g_aload_n rfl ?_
  refine g_gfr hI sx_24 rfl ?_
  refine g_aload_n rfl ?_
  refine g_gfr hI sx_24 rfl ?_
  refine g_aload_n rfl ?_
  refine g_gfr hI sx_24 rfl ?_
  refine g_gfr hI sx_25 rfl ?_
  refine g_iload_n rfl ?_
  refine g_iaload hI sx_27 rfl (by first | with_reducible assumption | omega) (fun v45 ev45 lv45 uv45 => ?_)
  refine g_aload_n rfl ?_
  refine g_gfr hI sx_24 rfl ?_
  refine g_iload_n rfl ?_
  refine g_invvi hI sx_25 rfl rfl rfl rfl (s_27 25 zCo_25 a1 (by first | with_reducible assumption | omega) H hI hJ) (fun v48 H46 r47 => ?_)
  obtain rfl := r47
  refine g_invvi hI sx_28 rfl rfl rfl rfl (s_93 28 zWo_28 3 zBo_3 v45 (by first | with_reducible assumption | omega) v48 H hI hJ) (fun v51 H49 r50 => ?_)
  obtain ⟨hIH49, hJH49, w52, m53⟩ := r50
  have e54 : k1_1 = fZ H49 1 1 := ek1_1.trans w52.symm
  have m55 : kpX H H49 := kpX_t mkfr m53
  exact g_iret ⟨_, rfl, hIH49, hJH49, (e54.symm.trans ek1_1), m55⟩
set_option maxRecDepth 4000 in
set_option maxHeartbeats 4000000 in
/-- X5.goTo -/
theorem s_54 (a1 : Int32) (H : mzH) (hI : gI SX H) (hJ : JX H) : gCall 54 [.ref 24, .int a1] H (gRi (fun v H' => gI SX H' ∧ JX H' ∧ (0 ≤ v.toInt ∧ v.toInt ≤ 60) ∧ fZ H' 1 1 = fZ H 1 1 ∧ kpX H H')) := by
  obtain ⟨k1_1, ek1_1⟩ : ∃ z, z = fZ H 1 1 := ⟨_, rfl⟩
  have ik1_1 : k1_1.toInt = (fZ H 1 1).toInt := by rw [← ek1_1]
  have bk1_1 : 0 ≤ k1_1.toInt ∧ k1_1.toInt ≤ 900 := by rw [ek1_1]; exact fZ_of hI sx_1 rfl
  have mkfr : kpX H H := kpX_r
  refine gG_call [(0, .ref 24), (1, .int a1)] ⟨rfl, rfl, trivial⟩ ?_
  show gG 3 zB_54 (mzBlk zB_54 0) [(0, .ref 24), (1, .int a1)] [] H 0 0 _
  refine g_aload_n rfl ?_
  refine g_gfr hI sx_24 rfl ?_
  refine g_invvv hI sx_28 rfl rfl rfl rfl (s_83 28 zWo_28 H hI hJ) (fun H295 r296 => ?_)
  obtain ⟨hIH295, hJH295, w297, m298⟩ := r296
  have e299 : k1_1 = fZ H295 1 1 := ek1_1.trans w297.symm
  have m300 : kpX H H295 := kpX_t mkfr m298
  refine g_iconst (by decide) (fun v301 kv301 => ?_)
  refine g_istore_n (l' := [(0, .ref 24), (1, .int a1), (2, .int v301)]) rfl rfl ?_
  refine g_nop ?_
  have L306 : ∀ (N : Nat) (v302 : Int32) (H303 : mzH), gI SX H303 → JX H303 → k1_1 = fZ H303 1 1 → kpX H H303 → (0 ≤ v302.toInt ∧ v302.toInt ≤ 60) → (60 - v302.toInt).toNat < N → gG 3 zB_54 (mzBlk zB_54 1) [(0, .ref 24), (1, .int a1), (2, .int v302)] [] H303 0 0 (gRi (fun v H' => gI SX H' ∧ JX H' ∧ (0 ≤ v.toInt ∧ v.toInt ≤ 60) ∧ fZ H' 1 1 = fZ H 1 1 ∧ kpX H H')) := by
    intro N
    induction N with
    | zero => intro v302 H303 hIH303 hJH303 e304 m305 bv302 hmL306; exact absurd hmL306 (Nat.not_lt_zero _)
    | succ N ihL306 =>
      intro v302 H303 hIH303 hJH303 e304 m305 bv302 hmL306
      refine g_iload_n rfl ?_
      refine g_aload_n rfl ?_
      refine g_gfr hIH303 sx_24 rfl ?_
      refine g_gfi hIH303 sx_25 rfl (fun v307 ev307 lv307 uv307 => ?_)
      refine g_if2_ge (fun c308 => ?_) (fun c308 => ?_)
      · refine g_iload_n rfl ?_
        exact g_iret ⟨_, rfl, hIH303, hJH303, (by first | with_reducible assumption | omega), (e304.symm.trans ek1_1), m305⟩
      · refine g_aload_n rfl ?_
        refine g_gfr hIH303 sx_24 rfl ?_
        refine g_iload_n rfl ?_
        refine g_invvi hIH303 sx_25 rfl rfl rfl rfl (s_27 25 zCo_25 v302 (by first | with_reducible assumption | omega) H303 hIH303 hJH303) (fun v311 H309 r310 => ?_)
        obtain rfl := r310
        refine g_iload_n rfl ?_
        refine g_if2_gt (fun c312 => ?_) (fun c312 => ?_)
        · refine g_iload_n rfl ?_
          exact g_iret ⟨_, rfl, hIH303, hJH303, (by first | with_reducible assumption | omega), (e304.symm.trans ek1_1), m305⟩
        · refine g_aload_n rfl ?_
          refine g_gfr hIH303 sx_24 rfl ?_
          refine g_aload_n rfl ?_
          refine g_gfr hIH303 sx_24 rfl ?_
          refine g_aload_n rfl ?_
          refine g_gfr hIH303 sx_24 rfl ?_
          refine g_gfr hIH303 sx_25 rfl ?_
          refine g_iload_n rfl ?_
          refine g_iaload hIH303 sx_27 rfl (by first | with_reducible assumption | omega) (fun v313 ev313 lv313 uv313 => ?_)
          refine g_aload_n rfl ?_
          refine g_gfr hIH303 sx_24 rfl ?_
          refine g_iload_n rfl ?_
          refine g_invvi hIH303 sx_25 rfl rfl rfl rfl (s_27 25 zCo_25 v302 (by first | with_reducible assumption | omega) H303 hIH303 hJH303) (fun v316 H314 r315 => ?_)
          obtain rfl := r315
          refine g_invvi hIH303 sx_28 rfl rfl rfl rfl (s_93 28 zWo_28 3 zBo_3 v313 (by first | with_reducible assumption | omega) v316 H303 hIH303 hJH303) (fun v319 H317 r318 => ?_)
          obtain ⟨hIH317, hJH317, w320, m321⟩ := r318
          have e322 : k1_1 = fZ H317 1 1 := e304.trans w320.symm
          have m323 : kpX H H317 := kpX_t m305 m321
          refine g_pop rfl ?_
          refine g_iinc (l' := (fun v324 => [(0, .ref 24), (1, .int a1), (2, .int v324)])) rfl rfl (by decide) (by first | with_reducible assumption | omega) (fun _ => rfl) (fun v324 ev324 => ?_)
          refine g_goto ?_
          exact ihL306 v324 H317 hIH317 hJH317 e322 m323 (by first | with_reducible assumption | omega) (by first | with_reducible assumption | omega)
  exact L306 _ v301 H295 hIH295 hJH295 e299 m300 (by first | with_reducible assumption | omega) (Nat.lt_succ_self _)
set_option maxRecDepth 4000 in
set_option maxHeartbeats 4000000 in
/-- X5.worldBy -/
theorem s_55 (a1 : Int32) (H : mzH) (hI : gI SX H) (hJ : JX H) : gCall 55 [.ref 24, .int a1] H (gRa 28 (fun H' => gI SX H' ∧ JX H' ∧ fZ H' 1 1 = fZ H 1 1 ∧ kpX H H')) := by
  obtain ⟨k1_1, ek1_1⟩ : ∃ z, z = fZ H 1 1 := ⟨_, rfl⟩
  have ik1_1 : k1_1.toInt = (fZ H 1 1).toInt := by rw [← ek1_1]
  have bk1_1 : 0 ≤ k1_1.toInt ∧ k1_1.toInt ≤ 900 := by rw [ek1_1]; exact fZ_of hI sx_1 rfl
  have mkfr : kpX H H := kpX_r
  refine gG_call [(0, .ref 24), (1, .int a1)] ⟨rfl, rfl, trivial⟩ ?_
  show gG 2 zB_55 (mzBlk zB_55 0) [(0, .ref 24), (1, .int a1)] [] H 0 0 _
  refine g_aload_n rfl ?_
  refine g_iload_n rfl ?_
  refine g_invvi hI sx_24 rfl rfl rfl rfl (s_54 a1 H hI hJ) (fun v31 H29 r30 => ?_)
  obtain ⟨hIH29, hJH29, bv31, w32, m33⟩ := r30
  have e34 : k1_1 = fZ H29 1 1 := ek1_1.trans w32.symm
  have m35 : kpX H H29 := kpX_t mkfr m33
  refine g_pop rfl ?_
  refine g_aload_n rfl ?_
  refine g_gfr hIH29 sx_24 rfl ?_
  exact g_aret ⟨rfl, hIH29, hJH29, (e34.symm.trans ek1_1), m35⟩
set_option maxRecDepth 4000 in
set_option maxHeartbeats 4000000 in
/-- X5.worldOfFirst -/
theorem s_56 (a1 : Int32) (H : mzH) (hI : gI SX H) (hJ : JX H) : gCall 56 [.ref 24, .int a1] H (gRa 28 (fun H' => gI SX H' ∧ JX H' ∧ fZ H' 1 1 = fZ H 1 1 ∧ kpX H H')) := by
  obtain ⟨k1_1, ek1_1⟩ : ∃ z, z = fZ H 1 1 := ⟨_, rfl⟩
  have ik1_1 : k1_1.toInt = (fZ H 1 1).toInt := by rw [← ek1_1]
  have bk1_1 : 0 ≤ k1_1.toInt ∧ k1_1.toInt ≤ 900 := by rw [ek1_1]; exact fZ_of hI sx_1 rfl
  have mkfr : kpX H H := kpX_r
  refine gG_call [(0, .ref 24), (1, .int a1)] ⟨rfl, rfl, trivial⟩ ?_
  show gG 3 zB_56 (mzBlk zB_56 0) [(0, .ref 24), (1, .int a1)] [] H 0 0 _
  refine g_aload_n rfl ?_
  refine g_gfr hI sx_24 rfl ?_
  refine g_invvv hI sx_28 rfl rfl rfl rfl (s_83 28 zWo_28 H hI hJ) (fun H225 r226 => ?_)
  obtain ⟨hIH225, hJH225, w227, m228⟩ := r226
  have e229 : k1_1 = fZ H225 1 1 := ek1_1.trans w227.symm
  have m230 : kpX H H225 := kpX_t mkfr m228
  refine g_iconst (by decide) (fun v231 kv231 => ?_)
  refine g_istore_n (l' := [(0, .ref 24), (1, .int a1), (2, .int v231)]) rfl rfl ?_
  refine g_nop ?_
  have L236 : ∀ (N : Nat) (v232 : Int32) (H233 : mzH), gI SX H233 → JX H233 → k1_1 = fZ H233 1 1 → kpX H H233 → (0 ≤ v232.toInt ∧ v232.toInt ≤ 60) → (60 - v232.toInt).toNat < N → gG 3 zB_56 (mzBlk zB_56 1) [(0, .ref 24), (1, .int a1), (2, .int v232)] [] H233 0 0 (gRa 28 (fun H' => gI SX H' ∧ JX H' ∧ fZ H' 1 1 = fZ H 1 1 ∧ kpX H H')) := by
    intro N
    induction N with
    | zero => intro v232 H233 hIH233 hJH233 e234 m235 bv232 hmL236; exact absurd hmL236 (Nat.not_lt_zero _)
    | succ N ihL236 =>
      intro v232 H233 hIH233 hJH233 e234 m235 bv232 hmL236
      refine g_iload_n rfl ?_
      refine g_aload_n rfl ?_
      refine g_gfr hIH233 sx_24 rfl ?_
      refine g_gfi hIH233 sx_25 rfl (fun v237 ev237 lv237 uv237 => ?_)
      refine g_if2_ge (fun c238 => ?_) (fun c238 => ?_)
      · refine g_aload_n rfl ?_
        refine g_gfr hIH233 sx_24 rfl ?_
        exact g_aret ⟨rfl, hIH233, hJH233, (e234.symm.trans ek1_1), m235⟩
      · refine g_aload_n rfl ?_
        refine g_gfr hIH233 sx_24 rfl ?_
        refine g_gfr hIH233 sx_25 rfl ?_
        refine g_iload_n rfl ?_
        refine g_iaload hIH233 sx_27 rfl (by first | with_reducible assumption | omega) (fun v239 ev239 lv239 uv239 => ?_)
        refine g_iload_n rfl ?_
        refine g_if2_ge (fun c240 => ?_) (fun c240 => ?_)
        · refine g_iinc (l' := (fun v241 => [(0, .ref 24), (1, .int a1), (2, .int v241)])) rfl rfl (by decide) (by first | with_reducible assumption | omega) (fun _ => rfl) (fun v241 ev241 => ?_)
          refine g_goto ?_
          exact ihL236 v241 H233 hIH233 hJH233 e234 m235 (by first | with_reducible assumption | omega) (by first | with_reducible assumption | omega)
        · refine g_aload_n rfl ?_
          refine g_iload_n rfl ?_
          refine g_invvi hIH233 sx_24 rfl rfl rfl rfl (s_53 v232 (by first | with_reducible assumption | omega) H233 hIH233 hJH233) (fun v244 H242 r243 => ?_)
          obtain ⟨hIH242, hJH242, w245, m246⟩ := r243
          have e247 : k1_1 = fZ H242 1 1 := e234.trans w245.symm
          have m248 : kpX H H242 := kpX_t m235 m246
          refine g_pop rfl ?_
          refine g_nop ?_
          refine g_iinc (l' := (fun v249 => [(0, .ref 24), (1, .int a1), (2, .int v249)])) rfl rfl (by decide) (by first | with_reducible assumption | omega) (fun _ => rfl) (fun v249 ev249 => ?_)
          refine g_goto ?_
          exact ihL236 v249 H242 hIH242 hJH242 e247 m248 (by first | with_reducible assumption | omega) (by first | with_reducible assumption | omega)
  exact L236 _ v231 H225 hIH225 hJH225 e229 m230 (by first | with_reducible assumption | omega) (Nat.lt_succ_self _)
set_option maxRecDepth 4000 in
set_option maxHeartbeats 4000000 in
/-- X5.thingsChangedBy -/
theorem s_57 (a1 : Int32) (ha1 : 0 ≤ a1.toInt ∧ a1.toInt ≤ 59) (H : mzH) (hI : gI SX H) (hJ : JX H) : gCall 57 [.ref 24, .int a1] H (gRi (fun v H' => gI SX H' ∧ JX H' ∧ fZ H' 1 1 = fZ H 1 1 ∧ kpX H H')) := by
  obtain ⟨k1_1, ek1_1⟩ : ∃ z, z = fZ H 1 1 := ⟨_, rfl⟩
  have ik1_1 : k1_1.toInt = (fZ H 1 1).toInt := by rw [← ek1_1]
  have bk1_1 : 0 ≤ k1_1.toInt ∧ k1_1.toInt ≤ 900 := by rw [ek1_1]; exact fZ_of hI sx_1 rfl
  have mkfr : kpX H H := kpX_r
  refine gG_call [(0, .ref 24), (1, .int a1)] ⟨rfl, rfl, trivial⟩ ?_
  show gG 4 zB_57 (mzBlk zB_57 0) [(0, .ref 24), (1, .int a1)] [] H 0 0 _
  refine g_aload_n rfl ?_
  refine g_gfr hI sx_24 rfl ?_
  refine g_aload_n rfl ?_
  refine g_iload_n rfl ?_
  refine g_invva hI sx_24 rfl rfl rfl rfl (s_56 a1 H hI hJ) (fun H629 r630 => ?_)
  obtain ⟨hIH629, hJH629, w631, m632⟩ := r630
  have e633 : k1_1 = fZ H629 1 1 := ek1_1.trans w631.symm
  have m634 : kpX H H629 := kpX_t mkfr m632
  refine g_invvv hIH629 sx_35 rfl rfl rfl rfl (s_84 35 zWo_35 28 zWo_28 H629 hIH629 hJH629) (fun H635 r636 => ?_)
  obtain ⟨hIH635, hJH635, w637, m638⟩ := r636
  have e639 : k1_1 = fZ H635 1 1 := e633.trans w637.symm
  have m640 : kpX H H635 := kpX_t m634 m638
  refine g_aload_n rfl ?_
  refine g_iload_n rfl ?_
  refine g_iconst (by decide) (fun v641 kv641 => ?_)
  refine g_iadd (by first | with_reducible assumption | omega) (fun v642 ev642 => ?_)
  refine g_invva hIH635 sx_24 rfl rfl rfl rfl (s_56 v642 H635 hIH635 hJH635) (fun H643 r644 => ?_)
  obtain ⟨hIH643, hJH643, w645, m646⟩ := r644
  have e647 : k1_1 = fZ H643 1 1 := e639.trans w645.symm
  have m648 : kpX H H643 := kpX_t m640 m646
  refine g_pop rfl ?_
  refine g_iconst (by decide) (fun v649 kv649 => ?_)
  refine g_istore_n (l' := [(0, .ref 24), (1, .int a1), (2, .int v649)]) rfl rfl ?_
  refine g_iconst (by decide) (fun v650 kv650 => ?_)
  refine g_istore_n (l' := [(0, .ref 24), (1, .int a1), (2, .int v649), (3, .int v650)]) rfl rfl ?_
  refine g_nop ?_
  have L653 : ∀ (N : Nat) (v651 : Int32) (v652 : Int32), (0 ≤ v652.toInt ∧ v652.toInt ≤ 40) → (40 - v652.toInt).toNat < N → gG 4 zB_57 (mzBlk zB_57 1) [(0, .ref 24), (1, .int a1), (2, .int v651), (3, .int v652)] [] H643 0 0 (gRi (fun v H' => gI SX H' ∧ JX H' ∧ fZ H' 1 1 = fZ H 1 1 ∧ kpX H H')) := by
    intro N
    induction N with
    | zero => intro v651 v652 bv652 hmL653; exact absurd hmL653 (Nat.not_lt_zero _)
    | succ N ihL653 =>
      intro v651 v652 bv652 hmL653
      refine g_iload_n rfl ?_
      refine g_bipush (by decide) (fun v654 kv654 => ?_)
      refine g_if2_ge (fun c655 => ?_) (fun c655 => ?_)
      · refine g_iload_n rfl ?_
        exact g_iret ⟨_, rfl, hIH643, hJH643, (e647.symm.trans ek1_1), m648⟩
      · refine g_iload_n rfl ?_
        refine g_aload_n rfl ?_
        refine g_gfr hIH643 sx_24 rfl ?_
        refine g_iload_n rfl ?_
        refine g_invvi hIH643 sx_35 rfl rfl rfl rfl (s_91 35 zWo_35 v652 (by first | with_reducible assumption | omega) H643 hIH643 hJH643) (fun v658 H656 r657 => ?_)
        obtain rfl := r657
        refine g_aload_n rfl ?_
        refine g_gfr hIH643 sx_24 rfl ?_
        refine g_iload_n rfl ?_
        refine g_invvi hIH643 sx_28 rfl rfl rfl rfl (s_91 28 zWo_28 v652 (by first | with_reducible assumption | omega) H643 hIH643 hJH643) (fun v661 H659 r660 => ?_)
        obtain rfl := r660
        refine g_if2_eq (fun c662 => ?_) (fun c662 => ?_)
        · refine g_iconst (by decide) (fun v663 kv663 => ?_)
          refine g_nop ?_
          refine g_iadd (by have := gz_any v651; omega) (fun v664 ev664 => ?_)
          refine g_istore_n (l' := [(0, .ref 24), (1, .int a1), (2, .int v664), (3, .int v652)]) rfl rfl ?_
          refine g_iinc (l' := (fun v665 => [(0, .ref 24), (1, .int a1), (2, .int v664), (3, .int v665)])) rfl rfl (by decide) (by first | with_reducible assumption | omega) (fun _ => rfl) (fun v665 ev665 => ?_)
          refine g_goto ?_
          exact ihL653 v664 v665 (by first | with_reducible assumption | omega) (by first | with_reducible assumption | omega)
        · refine g_iconst (by decide) (fun v666 kv666 => ?_)
          refine g_goto ?_
          refine g_iadd' (fun v667 ov667 => ?_)
          refine g_istore_n (l' := [(0, .ref 24), (1, .int a1), (2, .int v667), (3, .int v652)]) rfl rfl ?_
          refine g_iinc (l' := (fun v668 => [(0, .ref 24), (1, .int a1), (2, .int v667), (3, .int v668)])) rfl rfl (by decide) (by first | with_reducible assumption | omega) (fun _ => rfl) (fun v668 ev668 => ?_)
          refine g_goto ?_
          exact ihL653 v667 v668 (by first | with_reducible assumption | omega) (by first | with_reducible assumption | omega)
  exact L653 _ v649 v650 (by first | with_reducible assumption | omega) (Nat.lt_succ_self _)
set_option maxRecDepth 4000 in
set_option maxHeartbeats 4000000 in
/-- X5.verdicts -/
theorem s_58 (a1 : Int32) (H : mzH) (hI : gI SX H) (hJ : JX H) : gCall 58 [.ref 24, .int a1] H (gRi (fun v H' => H = H')) := by
  refine gG_call [(0, .ref 24), (1, .int a1)] ⟨rfl, rfl, trivial⟩ ?_
  show gG 4 zB_58 (mzBlk zB_58 0) [(0, .ref 24), (1, .int a1)] [] H 0 0 _
  refine g_iconst (by decide) (fun v669 kv669 => ?_)
  refine g_istore_n (l' := [(0, .ref 24), (1, .int a1), (2, .int v669)]) rfl rfl ?_
  refine g_iconst (by decide) (fun v670 kv670 => ?_)
  refine g_istore_n (l' := [(0, .ref 24), (1, .int a1), (2, .int v669), (3, .int v670)]) rfl rfl ?_
  refine g_nop ?_
  have L673 : ∀ (N : Nat) (v671 : Int32) (v672 : Int32), (0 ≤ v672.toInt ∧ v672.toInt ≤ 60) → (60 - v672.toInt).toNat < N → gG 4 zB_58 (mzBlk zB_58 1) [(0, .ref 24), (1, .int a1), (2, .int v671), (3, .int v672)] [] H 0 0 (gRi (fun v H' => H = H')) := by
    intro N
    induction N with
    | zero => intro v671 v672 bv672 hmL673; exact absurd hmL673 (Nat.not_lt_zero _)
    | succ N ihL673 =>
      intro v671 v672 bv672 hmL673
      refine g_iload_n rfl ?_
      refine g_aload_n rfl ?_
      refine g_gfr hI sx_24 rfl ?_
      refine g_gfi hI sx_25 rfl (fun v674 ev674 lv674 uv674 => ?_)
      refine g_if2_ge (fun c675 => ?_) (fun c675 => ?_)
      · refine g_iload_n rfl ?_
        exact g_iret ⟨_, rfl, rfl⟩
      · refine g_iload_n rfl ?_
        refine g_iload_n rfl ?_
        refine g_aload_n rfl ?_
        refine g_gfr hI sx_24 rfl ?_
        refine g_iload_n rfl ?_
        refine g_iaload hI sx_42 rfl (by first | with_reducible assumption | omega) (fun v676 ev676 lv676 uv676 => ?_)
        refine g_if2_eq (fun c677 => ?_) (fun c677 => ?_)
        · refine g_iconst (by decide) (fun v678 kv678 => ?_)
          refine g_goto ?_
          refine g_iadd' (fun v679 ov679 => ?_)
          refine g_istore_n (l' := [(0, .ref 24), (1, .int a1), (2, .int v679), (3, .int v672)]) rfl rfl ?_
          refine g_iinc (l' := (fun v680 => [(0, .ref 24), (1, .int a1), (2, .int v679), (3, .int v680)])) rfl rfl (by decide) (by first | with_reducible assumption | omega) (fun _ => rfl) (fun v680 ev680 => ?_)
          refine g_goto ?_
          exact ihL673 v679 v680 (by first | with_reducible assumption | omega) (by first | with_reducible assumption | omega)
        · refine g_iload_n rfl ?_
          refine g_iconst (by decide) (fun v681 kv681 => ?_)
          refine g_if2_ne (fun c682 => ?_) (fun c682 => ?_)
          · refine g_iconst (by decide) (fun v683 kv683 => ?_)
            refine g_nop ?_
            refine g_iadd (by have := gz_any v671; omega) (fun v684 ev684 => ?_)
            refine g_istore_n (l' := [(0, .ref 24), (1, .int a1), (2, .int v684), (3, .int v672)]) rfl rfl ?_
            refine g_iinc (l' := (fun v685 => [(0, .ref 24), (1, .int a1), (2, .int v684), (3, .int v685)])) rfl rfl (by decide) (by first | with_reducible assumption | omega) (fun _ => rfl) (fun v685 ev685 => ?_)
            refine g_goto ?_
            exact ihL673 v684 v685 (by first | with_reducible assumption | omega) (by first | with_reducible assumption | omega)
          · refine g_aload_n rfl ?_
            refine g_gfr hI sx_24 rfl ?_
            refine g_iload_n rfl ?_
            refine g_ialoadk hI sx_42 rfl (by first | with_reducible assumption | omega) ev676 ?_
            refine g_if_eq (fun c686 => ?_) (fun c686 => ?_)
            · refine g_iconst (by decide) (fun v687 kv687 => ?_)
              refine g_nop ?_
              refine g_iadd (by have := gz_any v671; omega) (fun v688 ev688 => ?_)
              refine g_istore_n (l' := [(0, .ref 24), (1, .int a1), (2, .int v688), (3, .int v672)]) rfl rfl ?_
              refine g_iinc (l' := (fun v689 => [(0, .ref 24), (1, .int a1), (2, .int v688), (3, .int v689)])) rfl rfl (by decide) (by first | with_reducible assumption | omega) (fun _ => rfl) (fun v689 ev689 => ?_)
              refine g_goto ?_
              exact ihL673 v688 v689 (by first | with_reducible assumption | omega) (by first | with_reducible assumption | omega)
            · refine g_nop ?_
              refine g_iconst (by decide) (fun v690 kv690 => ?_)
              refine g_goto ?_
              refine g_iadd' (fun v691 ov691 => ?_)
              refine g_istore_n (l' := [(0, .ref 24), (1, .int a1), (2, .int v691), (3, .int v672)]) rfl rfl ?_
              refine g_iinc (l' := (fun v692 => [(0, .ref 24), (1, .int a1), (2, .int v691), (3, .int v692)])) rfl rfl (by decide) (by first | with_reducible assumption | omega) (fun _ => rfl) (fun v692 ev692 => ?_)
              refine g_goto ?_
              exact ihL673 v691 v692 (by first | with_reducible assumption | omega) (by first | with_reducible assumption | omega)
  exact L673 _ v669 v670 (by first | with_reducible assumption | omega) (Nat.lt_succ_self _)
set_option maxRecDepth 4000 in
set_option maxHeartbeats 4000000 in
/-- X5.trailEntry -/
theorem s_59 (a1 : Int32) (ha1 : 0 ≤ a1.toInt ∧ a1.toInt ≤ 39) (a2 : Int32) (a3 : Int32) (ha3 : 0 ≤ a3.toInt ∧ a3.toInt ≤ 1) (H : mzH) (hI : gI SX H) (hJ : JX H) : gCall 59 [.ref 24, .int a1, .int a2, .int a3] H (gRi (fun v H' => gI SX H' ∧ JX H' ∧ fZ H' 1 1 = fZ H 1 1 ∧ kpX H H')) := by
  obtain ⟨k1_1, ek1_1⟩ : ∃ z, z = fZ H 1 1 := ⟨_, rfl⟩
  have ik1_1 : k1_1.toInt = (fZ H 1 1).toInt := by rw [← ek1_1]
  have bk1_1 : 0 ≤ k1_1.toInt ∧ k1_1.toInt ≤ 900 := by rw [ek1_1]; exact fZ_of hI sx_1 rfl
  have mkfr : kpX H H := kpX_r
  refine gG_call [(0, .ref 24), (1, .int a1), (2, .int a2), (3, .int a3)] ⟨rfl, rfl, rfl, rfl, trivial⟩ ?_
  show gG 7 zB_59 (mzBlk zB_59 0) [(0, .ref 24), (1, .int a1), (2, .int a2), (3, .int a3)] [] H 0 0 _
  refine g_aload_n rfl ?_
  refine g_gfr hI sx_24 rfl ?_
  refine g_invvv hI sx_28 rfl rfl rfl rfl (s_83 28 zWo_28 H hI hJ) (fun H937 r938 => ?_)
  obtain ⟨hIH937, hJH937, w939, m940⟩ := r938
  have e941 : k1_1 = fZ H937 1 1 := ek1_1.trans w939.symm
  have m942 : kpX H H937 := kpX_t mkfr m940
  refine g_bipush (by decide) (fun v943 kv943 => ?_)
  refine g_istore (l' := [(0, .ref 24), (1, .int a1), (2, .int a2), (3, .int a3), (4, .int v943)]) rfl rfl ?_
  refine g_iconst (by decide) (fun v944 kv944 => ?_)
  refine g_istore (l' := [(0, .ref 24), (1, .int a1), (2, .int a2), (3, .int a3), (4, .int v943), (5, .int v944)]) rfl rfl ?_
  refine g_iconst (by decide) (fun v945 kv945 => ?_)
  refine g_istore (l' := [(0, .ref 24), (1, .int a1), (2, .int a2), (3, .int a3), (4, .int v943), (5, .int v944), (6, .int v945)]) rfl rfl ?_
  refine g_nop ?_
  have L952 : ∀ (N : Nat) (v946 : Int32) (v947 : Int32) (v948 : Int32) (H949 : mzH), gI SX H949 → JX H949 → k1_1 = fZ H949 1 1 → kpX H H949 → (0 ≤ v948.toInt ∧ v948.toInt ≤ 60) → (60 - v948.toInt).toNat < N → gG 7 zB_59 (mzBlk zB_59 1) [(0, .ref 24), (1, .int a1), (2, .int a2), (3, .int a3), (4, .int v946), (5, .int v947), (6, .int v948)] [] H949 0 0 (gRi (fun v H' => gI SX H' ∧ JX H' ∧ fZ H' 1 1 = fZ H 1 1 ∧ kpX H H')) := by
    intro N
    induction N with
    | zero => intro v946 v947 v948 H949 hIH949 hJH949 e950 m951 bv948 hmL952; exact absurd hmL952 (Nat.not_lt_zero _)
    | succ N ihL952 =>
      intro v946 v947 v948 H949 hIH949 hJH949 e950 m951 bv948 hmL952
      refine g_iload rfl ?_
      refine g_aload_n rfl ?_
      refine g_gfr hIH949 sx_24 rfl ?_
      refine g_gfi hIH949 sx_25 rfl (fun v953 ev953 lv953 uv953 => ?_)
      refine g_if2_ge (fun c954 => ?_) (fun c954 => ?_)
      · refine g_bipush (by decide) (fun v955 kv955 => ?_)
        exact g_iret ⟨_, rfl, hIH949, hJH949, (e950.symm.trans ek1_1), m951⟩
      · refine g_aload_n rfl ?_
        refine g_iload rfl ?_
        refine g_invvi hIH949 sx_24 rfl rfl rfl rfl (s_53 v948 (by first | with_reducible assumption | omega) H949 hIH949 hJH949) (fun v958 H956 r957 => ?_)
        obtain ⟨hIH956, hJH956, w959, m960⟩ := r957
        have e961 : k1_1 = fZ H956 1 1 := e950.trans w959.symm
        have m962 : kpX H H956 := kpX_t m951 m960
        refine g_pop rfl ?_
        refine g_aload_n rfl ?_
        refine g_gfr hIH956 sx_24 rfl ?_
        refine g_iload_n rfl ?_
        refine g_invvi hIH956 sx_28 rfl rfl rfl rfl (s_91 28 zWo_28 a1 (by first | with_reducible assumption | omega) H956 hIH956 hJH956) (fun v965 H963 r964 => ?_)
        obtain rfl := r964
        refine g_iload rfl ?_
        refine g_if2_eq (fun c966 => ?_) (fun c966 => ?_)
        · refine g_iinc (l' := (fun v967 => [(0, .ref 24), (1, .int a1), (2, .int a2), (3, .int a3), (4, .int v946), (5, .int v947), (6, .int v967)])) rfl rfl (by decide) (by first | with_reducible assumption | omega) (fun _ => rfl) (fun v967 ev967 => ?_)
          refine g_goto ?_
          exact ihL952 v946 v947 v967 H956 hIH956 hJH956 e961 m962 (by first | with_reducible assumption | omega) (by first | with_reducible assumption | omega)
        · refine g_aload_n rfl ?_
          refine g_gfr hIH956 sx_24 rfl ?_
          refine g_iload_n rfl ?_
          refine g_invvi hIH956 sx_28 rfl rfl rfl rfl (s_91 28 zWo_28 a1 (by first | with_reducible assumption | omega) H956 hIH956 hJH956) (fun v970 H968 r969 => ?_)
          obtain rfl := r969
          refine g_istore (l' := [(0, .ref 24), (1, .int a1), (2, .int a2), (3, .int a3), (4, .int v970), (5, .int v947), (6, .int v948)]) rfl rfl ?_
          refine g_iload rfl ?_
          refine g_iload_n rfl ?_
          refine g_if2_ne (fun c971 => ?_) (fun c971 => ?_)
          · refine g_iinc' (l' := (fun v972 => [(0, .ref 24), (1, .int a1), (2, .int a2), (3, .int a3), (4, .int v970), (5, .int v972), (6, .int v948)])) rfl rfl (fun _ => rfl) (fun v972 => ?_)
            refine g_nop ?_
            refine g_iinc (l' := (fun v973 => [(0, .ref 24), (1, .int a1), (2, .int a2), (3, .int a3), (4, .int v970), (5, .int v972), (6, .int v973)])) rfl rfl (by decide) (by first | with_reducible assumption | omega) (fun _ => rfl) (fun v973 ev973 => ?_)
            refine g_goto ?_
            exact ihL952 v970 v972 v973 H956 hIH956 hJH956 e961 m962 (by first | with_reducible assumption | omega) (by first | with_reducible assumption | omega)
          · refine g_iload_n rfl ?_
            refine g_if_eq (fun c974 => ?_) (fun c974 => ?_)
            · refine g_aload_n rfl ?_
              refine g_gfr hIH956 sx_24 rfl ?_
              refine g_iload rfl ?_
              refine g_invvi hIH956 sx_25 rfl rfl rfl rfl (s_27 25 zCo_25 v948 (by first | with_reducible assumption | omega) H956 hIH956 hJH956) (fun v977 H975 r976 => ?_)
              obtain rfl := r976
              refine g_nop ?_
              exact g_iret ⟨_, rfl, hIH956, hJH956, (e961.symm.trans ek1_1), m962⟩
            · refine g_iload rfl ?_
              refine g_goto ?_
              exact g_iret ⟨_, rfl, hIH956, hJH956, (e961.symm.trans ek1_1), m962⟩
  exact L952 _ v943 v944 v945 H937 hIH937 hJH937 e941 m942 (by first | with_reducible assumption | omega) (Nat.lt_succ_self _)
set_option maxRecDepth 4000 in
set_option maxHeartbeats 4000000 in
/-- X5.hoursAt -/
theorem s_60 (a1 : Int32) (ha1 : 0 ≤ a1.toInt ∧ a1.toInt ≤ 39) (a2 : Int32) (H : mzH) (hI : gI SX H) (hJ : JX H) : gCall 60 [.ref 24, .int a1, .int a2] H (gRi (fun v H' => gI SX H' ∧ JX H' ∧ fZ H' 1 1 = fZ H 1 1 ∧ kpX H H')) := by
  obtain ⟨k1_1, ek1_1⟩ : ∃ z, z = fZ H 1 1 := ⟨_, rfl⟩
  have ik1_1 : k1_1.toInt = (fZ H 1 1).toInt := by rw [← ek1_1]
  have bk1_1 : 0 ≤ k1_1.toInt ∧ k1_1.toInt ≤ 900 := by rw [ek1_1]; exact fZ_of hI sx_1 rfl
  have mkfr : kpX H H := kpX_r
  refine gG_call [(0, .ref 24), (1, .int a1), (2, .int a2)] ⟨rfl, rfl, rfl, trivial⟩ ?_
  show gG 7 zB_60 (mzBlk zB_60 0) [(0, .ref 24), (1, .int a1), (2, .int a2)] [] H 0 0 _
  refine g_aload_n rfl ?_
  refine g_gfr hI sx_24 rfl ?_
  refine g_invvv hI sx_28 rfl rfl rfl rfl (s_83 28 zWo_28 H hI hJ) (fun H699 r700 => ?_)
  obtain ⟨hIH699, hJH699, w701, m702⟩ := r700
  have e703 : k1_1 = fZ H699 1 1 := ek1_1.trans w701.symm
  have m704 : kpX H H699 := kpX_t mkfr m702
  refine g_bipush (by decide) (fun v705 kv705 => ?_)
  refine g_istore_n (l' := [(0, .ref 24), (1, .int a1), (2, .int a2), (3, .int v705)]) rfl rfl ?_
  refine g_iconst (by decide) (fun v706 kv706 => ?_)
  refine g_istore (l' := [(0, .ref 24), (1, .int a1), (2, .int a2), (3, .int v705), (4, .int v706)]) rfl rfl ?_
  refine g_iconst (by decide) (fun v707 kv707 => ?_)
  refine g_istore (l' := [(0, .ref 24), (1, .int a1), (2, .int a2), (3, .int v705), (4, .int v706), (5, .int v707)]) rfl rfl ?_
  refine g_iconst (by decide) (fun v708 kv708 => ?_)
  refine g_istore (l' := [(0, .ref 24), (1, .int a1), (2, .int a2), (3, .int v705), (4, .int v706), (5, .int v707), (6, .int v708)]) rfl rfl ?_
  refine g_nop ?_
  have L716 : ∀ (N : Nat) (v709 : Int32) (v710 : Int32) (v711 : Int32) (v712 : Int32) (H713 : mzH), gI SX H713 → JX H713 → k1_1 = fZ H713 1 1 → kpX H H713 → (0 ≤ v712.toInt ∧ v712.toInt ≤ 60) → (60 - v712.toInt).toNat < N → gG 7 zB_60 (mzBlk zB_60 1) [(0, .ref 24), (1, .int a1), (2, .int a2), (3, .int v709), (4, .int v710), (5, .int v711), (6, .int v712)] [] H713 0 0 (gRi (fun v H' => gI SX H' ∧ JX H' ∧ fZ H' 1 1 = fZ H 1 1 ∧ kpX H H')) := by
    intro N
    induction N with
    | zero => intro v709 v710 v711 v712 H713 hIH713 hJH713 e714 m715 bv712 hmL716; exact absurd hmL716 (Nat.not_lt_zero _)
    | succ N ihL716 =>
      intro v709 v710 v711 v712 H713 hIH713 hJH713 e714 m715 bv712 hmL716
      refine g_iload rfl ?_
      refine g_aload_n rfl ?_
      refine g_gfr hIH713 sx_24 rfl ?_
      refine g_gfi hIH713 sx_25 rfl (fun v717 ev717 lv717 uv717 => ?_)
      refine g_if2_ge (fun c718 => ?_) (fun c718 => ?_)
      · refine g_iload_n rfl ?_
        refine g_iload_n rfl ?_
        refine g_if2_ne (fun c719 => ?_) (fun c719 => ?_)
        · refine g_iload rfl ?_
          refine g_nop ?_
          exact g_iret ⟨_, rfl, hIH713, hJH713, (e714.symm.trans ek1_1), m715⟩
        · refine g_iload rfl ?_
          refine g_aload_n rfl ?_
          refine g_gfr hIH713 sx_24 rfl ?_
          refine g_invvi hIH713 sx_3 rfl rfl rfl rfl (s_22 3 zBo_3 H713 hIH713 hJH713) (fun v722 H720 r721 => ?_)
          obtain rfl := r721
          refine g_iadd' (fun v723 ov723 => ?_)
          refine g_iload rfl ?_
          refine g_isub' (fun v724 ov724 => ?_)
          refine g_goto ?_
          exact g_iret ⟨_, rfl, hIH713, hJH713, (e714.symm.trans ek1_1), m715⟩
      · refine g_aload_n rfl ?_
        refine g_iload rfl ?_
        refine g_invvi hIH713 sx_24 rfl rfl rfl rfl (s_53 v712 (by first | with_reducible assumption | omega) H713 hIH713 hJH713) (fun v727 H725 r726 => ?_)
        obtain ⟨hIH725, hJH725, w728, m729⟩ := r726
        have e730 : k1_1 = fZ H725 1 1 := e714.trans w728.symm
        have m731 : kpX H H725 := kpX_t m715 m729
        refine g_pop rfl ?_
        refine g_aload_n rfl ?_
        refine g_gfr hIH725 sx_24 rfl ?_
        refine g_iload_n rfl ?_
        refine g_invvi hIH725 sx_28 rfl rfl rfl rfl (s_91 28 zWo_28 a1 (by first | with_reducible assumption | omega) H725 hIH725 hJH725) (fun v734 H732 r733 => ?_)
        obtain rfl := r733
        refine g_iload_n rfl ?_
        refine g_if2_eq (fun c735 => ?_) (fun c735 => ?_)
        · refine g_iinc (l' := (fun v736 => [(0, .ref 24), (1, .int a1), (2, .int a2), (3, .int v709), (4, .int v710), (5, .int v711), (6, .int v736)])) rfl rfl (by decide) (by first | with_reducible assumption | omega) (fun _ => rfl) (fun v736 ev736 => ?_)
          refine g_goto ?_
          exact ihL716 v709 v710 v711 v736 H725 hIH725 hJH725 e730 m731 (by first | with_reducible assumption | omega) (by first | with_reducible assumption | omega)
        · refine g_iload rfl ?_
          refine g_iload_n rfl ?_
          refine g_iload_n rfl ?_
          refine g_if2_ne (fun c737 => ?_) (fun c737 => ?_)
          · refine g_iconst (by decide) (fun v738 kv738 => ?_)
            refine g_nop ?_
            refine g_iadd (by have := gz_any v711; omega) (fun v739 ev739 => ?_)
            refine g_istore (l' := [(0, .ref 24), (1, .int a1), (2, .int a2), (3, .int v709), (4, .int v710), (5, .int v739), (6, .int v712)]) rfl rfl ?_
            refine g_aload_n rfl ?_
            refine g_gfr hIH725 sx_24 rfl ?_
            refine g_iload_n rfl ?_
            refine g_invvi hIH725 sx_28 rfl rfl rfl rfl (s_91 28 zWo_28 a1 (by first | with_reducible assumption | omega) H725 hIH725 hJH725) (fun v742 H740 r741 => ?_)
            obtain rfl := r741
            refine g_istore_n (l' := [(0, .ref 24), (1, .int a1), (2, .int a2), (3, .int v742), (4, .int v710), (5, .int v739), (6, .int v712)]) rfl rfl ?_
            refine g_aload_n rfl ?_
            refine g_gfr hIH725 sx_24 rfl ?_
            refine g_iload rfl ?_
            refine g_invvi hIH725 sx_25 rfl rfl rfl rfl (s_27 25 zCo_25 v712 (by first | with_reducible assumption | omega) H725 hIH725 hJH725) (fun v745 H743 r744 => ?_)
            obtain rfl := r744
            refine g_istore (l' := [(0, .ref 24), (1, .int a1), (2, .int a2), (3, .int v742), (4, .int v745), (5, .int v739), (6, .int v712)]) rfl rfl ?_
            refine g_nop ?_
            refine g_iinc (l' := (fun v746 => [(0, .ref 24), (1, .int a1), (2, .int a2), (3, .int v742), (4, .int v745), (5, .int v739), (6, .int v746)])) rfl rfl (by decide) (by first | with_reducible assumption | omega) (fun _ => rfl) (fun v746 ev746 => ?_)
            refine g_goto ?_
            exact ihL716 v742 v745 v739 v746 H725 hIH725 hJH725 e730 m731 (by first | with_reducible assumption | omega) (by first | with_reducible assumption | omega)
          · refine g_aload_n rfl ?_
            refine g_gfr hIH725 sx_24 rfl ?_
            refine g_iload rfl ?_
            refine g_invvi hIH725 sx_25 rfl rfl rfl rfl (s_27 25 zCo_25 v712 (by first | with_reducible assumption | omega) H725 hIH725 hJH725) (fun v749 H747 r748 => ?_)
            obtain rfl := r748
            refine g_iload rfl ?_
            refine g_isub' (fun v750 ov750 => ?_)
            refine g_goto ?_
            refine g_iadd' (fun v751 ov751 => ?_)
            refine g_istore (l' := [(0, .ref 24), (1, .int a1), (2, .int a2), (3, .int v709), (4, .int v710), (5, .int v751), (6, .int v712)]) rfl rfl ?_
            refine g_aload_n rfl ?_
            refine g_gfr hIH725 sx_24 rfl ?_
            refine g_iload_n rfl ?_
            refine g_invvi hIH725 sx_28 rfl rfl rfl rfl (s_91 28 zWo_28 a1 (by first | with_reducible assumption | omega) H725 hIH725 hJH725) (fun v754 H752 r753 => ?_)
            obtain rfl := r753
            refine g_istore_n (l' := [(0, .ref 24), (1, .int a1), (2, .int a2), (3, .int v754), (4, .int v710), (5, .int v751), (6, .int v712)]) rfl rfl ?_
            refine g_aload_n rfl ?_
            refine g_gfr hIH725 sx_24 rfl ?_
            refine g_iload rfl ?_
            refine g_invvi hIH725 sx_25 rfl rfl rfl rfl (s_27 25 zCo_25 v712 (by first | with_reducible assumption | omega) H725 hIH725 hJH725) (fun v757 H755 r756 => ?_)
            obtain rfl := r756
            refine g_istore (l' := [(0, .ref 24), (1, .int a1), (2, .int a2), (3, .int v754), (4, .int v757), (5, .int v751), (6, .int v712)]) rfl rfl ?_
            refine g_nop ?_
            refine g_iinc (l' := (fun v758 => [(0, .ref 24), (1, .int a1), (2, .int a2), (3, .int v754), (4, .int v757), (5, .int v751), (6, .int v758)])) rfl rfl (by decide) (by first | with_reducible assumption | omega) (fun _ => rfl) (fun v758 ev758 => ?_)
            refine g_goto ?_
            exact ihL716 v754 v757 v751 v758 H725 hIH725 hJH725 e730 m731 (by first | with_reducible assumption | omega) (by first | with_reducible assumption | omega)
  exact L716 _ v705 v706 v707 v708 H699 hIH699 hJH699 e703 m704 (by first | with_reducible assumption | omega) (Nat.lt_succ_self _)
set_option maxRecDepth 4000 in
set_option maxHeartbeats 4000000 in
/-- X8.allAt -/
theorem s_105 (w : Nat) (hw : zWo w) (a1 : Int32) (H : mzH) (hI : gI SX H) (hJ : JX H) : gCall 105 [.ref w, .int a1] H (gRl (fun _ H' => H = H')) := by
  obtain ⟨hwr, hw0, hw1, hw2, hw3, hw4, hw5, hw6⟩ := id hw
  refine gG_call [(0, .ref w), (1, .int a1)] ⟨rfl, rfl, trivial⟩ ?_
  show gG 5 zB_105 (mzBlk zB_105 0) [(0, .ref w), (1, .int a1)] [] H 0 0 _
  refine g_lconst (fun v177 _ => ?_)
  refine g_lstore_n (l' := [(0, .ref w), (1, .int a1), (2, .long v177)]) rfl rfl ?_
  refine g_iconst (by decide) (fun v178 kv178 => ?_)
  refine g_istore (l' := [(0, .ref w), (1, .int a1), (2, .long v177), (4, .int v178)]) rfl rfl ?_
  refine g_nop ?_
  have L181 : ∀ (N : Nat) (v179 : Int64) (v180 : Int32), (0 ≤ v180.toInt ∧ v180.toInt ≤ 40) → (40 - v180.toInt).toNat < N → gG 5 zB_105 (mzBlk zB_105 1) [(0, .ref w), (1, .int a1), (2, .long v179), (4, .int v180)] [] H 0 0 (gRl (fun _ H' => H = H')) := by
    intro N
    induction N with
    | zero => intro v179 v180 bv180 hmL181; exact absurd hmL181 (Nat.not_lt_zero _)
    | succ N ihL181 =>
      intro v179 v180 bv180 hmL181
      refine g_iload rfl ?_
      refine g_bipush (by decide) (fun v182 kv182 => ?_)
      refine g_if2_ge (fun c183 => ?_) (fun c183 => ?_)
      · refine g_lload_n rfl ?_
        exact g_lret ⟨_, rfl, rfl⟩
      · refine g_aload_n rfl ?_
        refine g_iload rfl ?_
        refine g_invvi hI hw0 rfl rfl rfl rfl (s_91 w hw v180 (by first | with_reducible assumption | omega) H hI hJ) (fun v186 H184 r185 => ?_)
        obtain rfl := r185
        refine g_iload_n rfl ?_
        refine g_if2_ne (fun c187 => ?_) (fun c187 => ?_)
        · refine g_iinc (l' := (fun v188 => [(0, .ref w), (1, .int a1), (2, .long v179), (4, .int v188)])) rfl rfl (by decide) (by first | with_reducible assumption | omega) (fun _ => rfl) (fun v188 ev188 => ?_)
          refine g_goto ?_
          exact ihL181 v179 v188 (by first | with_reducible assumption | omega) (by first | with_reducible assumption | omega)
        · refine g_lload_n rfl ?_
          refine g_lconst (fun v189 _ => ?_)
          refine g_iload rfl ?_
          refine g_lshl (fun v190 _ => ?_)
          refine g_lor (fun v191 _ => ?_)
          refine g_lstore_n (l' := [(0, .ref w), (1, .int a1), (2, .long v191), (4, .int v180)]) rfl rfl ?_
          refine g_nop ?_
          refine g_iinc (l' := (fun v192 => [(0, .ref w), (1, .int a1), (2, .long v191), (4, .int v192)])) rfl rfl (by decide) (by first | with_reducible assumption | omega) (fun _ => rfl) (fun v192 ev192 => ?_)
          refine g_goto ?_
          exact ihL181 v191 v192 (by first | with_reducible assumption | omega) (by first | with_reducible assumption | omega)
  exact L181 _ v177 v178 (by first | with_reducible assumption | omega) (Nat.lt_succ_self _)
set_option maxRecDepth 4000 in
set_option maxHeartbeats 4000000 in
/-- J13.bitCount -/
theorem s_253 (a0 : Int64) (H : mzH) (hI : gI SX H) (hJ : JX H) : gCall 253 [.long a0] H (gRi (fun v H' => H = H')) := by
  refine gG_call [(0, .long a0)] ⟨rfl, trivial⟩ ?_
  show gG 2 zB_253 (mzBlk zB_253 0) [(0, .long a0)] [] H 0 0 _
  refine g_lload_n rfl ?_
  refine g_lload_n rfl ?_
  refine g_iconst (by decide) (fun v117 kv117 => ?_)
  refine g_lushr (fun v118 _ => ?_)
  refine g_ldc2 (fun v119 _ => ?_)
  refine g_land (fun v120 _ => ?_)
  refine g_lsub (fun v121 _ => ?_)
  refine g_lstore_n (l' := [(0, .long v121)]) rfl rfl ?_
  refine g_lload_n rfl ?_
  refine g_ldc2 (fun v122 _ => ?_)
  refine g_land (fun v123 _ => ?_)
  refine g_lload_n rfl ?_
  refine g_iconst (by decide) (fun v124 kv124 => ?_)
  refine g_lushr (fun v125 _ => ?_)
  refine g_ldc2 (fun v126 _ => ?_)
  refine g_land (fun v127 _ => ?_)
  refine g_ladd (fun v128 _ => ?_)
  refine g_lstore_n (l' := [(0, .long v128)]) rfl rfl ?_
  refine g_lload_n rfl ?_
  refine g_lload_n rfl ?_
  refine g_iconst (by decide) (fun v129 kv129 => ?_)
  refine g_lushr (fun v130 _ => ?_)
  refine g_ladd (fun v131 _ => ?_)
  refine g_ldc2 (fun v132 _ => ?_)
  refine g_land (fun v133 _ => ?_)
  refine g_lstore_n (l' := [(0, .long v133)]) rfl rfl ?_
  refine g_lload_n rfl ?_
  refine g_lload_n rfl ?_
  refine g_bipush (by decide) (fun v134 kv134 => ?_)
  refine g_lushr (fun v135 _ => ?_)
  refine g_ladd (fun v136 _ => ?_)
  refine g_lstore_n (l' := [(0, .long v136)]) rfl rfl ?_
  refine g_lload_n rfl ?_
  refine g_lload_n rfl ?_
  refine g_bipush (by decide) (fun v137 kv137 => ?_)
  refine g_lushr (fun v138 _ => ?_)
  refine g_ladd (fun v139 _ => ?_)
  refine g_lstore_n (l' := [(0, .long v139)]) rfl rfl ?_
  refine g_lload_n rfl ?_
  refine g_lload_n rfl ?_
  refine g_bipush (by decide) (fun v140 kv140 => ?_)
  refine g_lushr (fun v141 _ => ?_)
  refine g_ladd (fun v142 _ => ?_)
  refine g_lstore_n (l' := [(0, .long v142)]) rfl rfl ?_
  refine g_lload_n rfl ?_
  refine g_l2i (fun v143 ov143 => ?_)
  refine g_bipush (by decide) (fun v144 kv144 => ?_)
  refine g_iand (by first | with_reducible assumption | omega) (fun v145 ov145 lv145 uv145 => ?_)
  exact g_iret ⟨_, rfl, rfl⟩
set_option maxRecDepth 4000 in
set_option maxHeartbeats 4000000 in
/-- X5.passages -/
theorem s_61 (a1 : Int32) (a2 : Int32) (H : mzH) (hI : gI SX H) (hJ : JX H) : gCall 61 [.ref 24, .int a1, .int a2] H (gRi (fun v H' => gI SX H' ∧ JX H' ∧ fZ H' 1 1 = fZ H 1 1 ∧ kpX H H')) := by
  obtain ⟨k1_1, ek1_1⟩ : ∃ z, z = fZ H 1 1 := ⟨_, rfl⟩
  have ik1_1 : k1_1.toInt = (fZ H 1 1).toInt := by rw [← ek1_1]
  have bk1_1 : 0 ≤ k1_1.toInt ∧ k1_1.toInt ≤ 900 := by rw [ek1_1]; exact fZ_of hI sx_1 rfl
  have mkfr : kpX H H := kpX_r
  refine gG_call [(0, .ref 24), (1, .int a1), (2, .int a2)] ⟨rfl, rfl, rfl, trivial⟩ ?_
  show gG 7 zB_61 (mzBlk zB_61 0) [(0, .ref 24), (1, .int a1), (2, .int a2)] [] H 0 0 _
  refine g_aload_n rfl ?_
  refine g_gfr hI sx_24 rfl ?_
  refine g_invvv hI sx_28 rfl rfl rfl rfl (s_83 28 zWo_28 H hI hJ) (fun H369 r370 => ?_)
  obtain ⟨hIH369, hJH369, w371, m372⟩ := r370
  have e373 : k1_1 = fZ H369 1 1 := ek1_1.trans w371.symm
  have m374 : kpX H H369 := kpX_t mkfr m372
  refine g_iconst (by decide) (fun v375 kv375 => ?_)
  refine g_istore_n (l' := [(0, .ref 24), (1, .int a1), (2, .int a2), (3, .int v375)]) rfl rfl ?_
  refine g_iconst (by decide) (fun v376 kv376 => ?_)
  refine g_istore (l' := [(0, .ref 24), (1, .int a1), (2, .int a2), (3, .int v375), (4, .int v376)]) rfl rfl ?_
  refine g_nop ?_
  have L382 : ∀ (N : Nat) (v377 : Int32) (v378 : Int32) (H379 : mzH), gI SX H379 → JX H379 → k1_1 = fZ H379 1 1 → kpX H H379 → (0 ≤ v378.toInt ∧ v378.toInt ≤ 60) → (60 - v378.toInt).toNat < N → gG 7 zB_61 (mzBlk zB_61 1) [(0, .ref 24), (1, .int a1), (2, .int a2), (3, .int v377), (4, .int v378)] [] H379 0 0 (gRi (fun v H' => gI SX H' ∧ JX H' ∧ fZ H' 1 1 = fZ H 1 1 ∧ kpX H H')) := by
    intro N
    induction N with
    | zero => intro v377 v378 H379 hIH379 hJH379 e380 m381 bv378 hmL382; exact absurd hmL382 (Nat.not_lt_zero _)
    | succ N ihL382 =>
      intro v377 v378 H379 hIH379 hJH379 e380 m381 bv378 hmL382
      refine g_iload rfl ?_
      refine g_aload_n rfl ?_
      refine g_gfr hIH379 sx_24 rfl ?_
      refine g_gfi hIH379 sx_25 rfl (fun v383 ev383 lv383 uv383 => ?_)
      refine g_if2_ge (fun c384 => ?_) (fun c384 => ?_)
      · refine g_iload_n rfl ?_
        exact g_iret ⟨_, rfl, hIH379, hJH379, (e380.symm.trans ek1_1), m381⟩
      · refine g_aload_n rfl ?_
        refine g_gfr hIH379 sx_24 rfl ?_
        refine g_iload_n rfl ?_
        refine g_invvl hIH379 sx_28 rfl rfl rfl rfl (s_105 28 zWo_28 a1 H379 hIH379 hJH379) (fun v387 H385 r386 => ?_)
        obtain rfl := r386
        refine g_lstore (l' := [(0, .ref 24), (1, .int a1), (2, .int a2), (3, .int v377), (4, .int v378), (5, .long v387)]) rfl rfl ?_
        refine g_aload_n rfl ?_
        refine g_iload rfl ?_
        refine g_invvi hIH379 sx_24 rfl rfl rfl rfl (s_53 v378 (by first | with_reducible assumption | omega) H379 hIH379 hJH379) (fun v390 H388 r389 => ?_)
        obtain ⟨hIH388, hJH388, w391, m392⟩ := r389
        have e393 : k1_1 = fZ H388 1 1 := e380.trans w391.symm
        have m394 : kpX H H388 := kpX_t m381 m392
        refine g_pop rfl ?_
        refine g_iload_n rfl ?_
        refine g_lload rfl ?_
        refine g_aload_n rfl ?_
        refine g_gfr hIH388 sx_24 rfl ?_
        refine g_iload_n rfl ?_
        refine g_invvl hIH388 sx_28 rfl rfl rfl rfl (s_105 28 zWo_28 a2 H388 hIH388 hJH388) (fun v397 H395 r396 => ?_)
        obtain rfl := r396
        refine g_land (fun v398 _ => ?_)
        refine g_invti rfl rfl rfl (s_253 v398 H388 hIH388 hJH388) (fun v401 H399 r400 => ?_)
        obtain rfl := r400
        refine g_iadd' (fun v402 ov402 => ?_)
        refine g_istore_n (l' := [(0, .ref 24), (1, .int a1), (2, .int a2), (3, .int v402), (4, .int v378), (5, .long v387)]) rfl rfl ?_
        refine g_iinc (l' := (fun v403 => [(0, .ref 24), (1, .int a1), (2, .int a2), (3, .int v402), (4, .int v403), (5, .long v387)])) rfl rfl (by decide) (by first | with_reducible assumption | omega) (fun _ => rfl) (fun v403 ev403 => ?_)
        refine g_goto ?_
        refine gG_pick [0, 1, 2, 3, 4] (l' := [(0, .ref 24), (1, .int a1), (2, .int a2), (3, .int v402), (4, .int v403)]) rfl ?_
        exact ihL382 v402 v403 H388 hIH388 hJH388 e393 m394 (by first | with_reducible assumption | omega) (by first | with_reducible assumption | omega)
  exact L382 _ v375 v376 H369 hIH369 hJH369 e373 m374 (by first | with_reducible assumption | omega) (Nat.lt_succ_self _)
set_option maxRecDepth 4000 in
set_option maxHeartbeats 4000000 in
/-- X5.hoursOnWays -/
theorem s_62 (a1 : Int32) (ha1 : 0 ≤ a1.toInt ∧ a1.toInt ≤ 39) (H : mzH) (hI : gI SX H) (hJ : JX H) : gCall 62 [.ref 24, .int a1] H (gRi (fun v H' => gI SX H' ∧ JX H' ∧ fZ H' 1 1 = fZ H 1 1 ∧ kpX H H')) := by
  obtain ⟨k1_1, ek1_1⟩ : ∃ z, z = fZ H 1 1 := ⟨_, rfl⟩
  have ik1_1 : k1_1.toInt = (fZ H 1 1).toInt := by rw [← ek1_1]
  have bk1_1 : 0 ≤ k1_1.toInt ∧ k1_1.toInt ≤ 900 := by rw [ek1_1]; exact fZ_of hI sx_1 rfl
  have mkfr : kpX H H := kpX_r
  refine gG_call [(0, .ref 24), (1, .int a1)] ⟨rfl, rfl, trivial⟩ ?_
  show gG 6 zB_62 (mzBlk zB_62 0) [(0, .ref 24), (1, .int a1)] [] H 0 0 _
  refine g_aload_n rfl ?_
  refine g_gfr hI sx_24 rfl ?_
  refine g_invvv hI sx_28 rfl rfl rfl rfl (s_83 28 zWo_28 H hI hJ) (fun H443 r444 => ?_)
  obtain ⟨hIH443, hJH443, w445, m446⟩ := r444
  have e447 : k1_1 = fZ H443 1 1 := ek1_1.trans w445.symm
  have m448 : kpX H H443 := kpX_t mkfr m446
  refine g_bipush (by decide) (fun v449 kv449 => ?_)
  refine g_istore_n (l' := [(0, .ref 24), (1, .int a1), (2, .int v449)]) rfl rfl ?_
  refine g_iconst (by decide) (fun v450 kv450 => ?_)
  refine g_istore_n (l' := [(0, .ref 24), (1, .int a1), (2, .int v449), (3, .int v450)]) rfl rfl ?_
  refine g_iconst (by decide) (fun v451 kv451 => ?_)
  refine g_istore (l' := [(0, .ref 24), (1, .int a1), (2, .int v449), (3, .int v450), (4, .int v451)]) rfl rfl ?_
  refine g_nop ?_
  have L458 : ∀ (N : Nat) (v452 : Int32) (v453 : Int32) (v454 : Int32) (H455 : mzH), gI SX H455 → JX H455 → k1_1 = fZ H455 1 1 → kpX H H455 → (-2 ≤ v452.toInt ∧ v452.toInt ≤ 2147483647) → (0 ≤ v454.toInt ∧ v454.toInt ≤ 60) → (60 - v454.toInt).toNat < N → gG 6 zB_62 (mzBlk zB_62 1) [(0, .ref 24), (1, .int a1), (2, .int v452), (3, .int v453), (4, .int v454)] [] H455 0 0 (gRi (fun v H' => gI SX H' ∧ JX H' ∧ fZ H' 1 1 = fZ H 1 1 ∧ kpX H H')) := by
    intro N
    induction N with
    | zero => intro v452 v453 v454 H455 hIH455 hJH455 e456 m457 bv452 bv454 hmL458; exact absurd hmL458 (Nat.not_lt_zero _)
    | succ N ihL458 =>
      intro v452 v453 v454 H455 hIH455 hJH455 e456 m457 bv452 bv454 hmL458
      refine g_iload rfl ?_
      refine g_aload_n rfl ?_
      refine g_gfr hIH455 sx_24 rfl ?_
      refine g_gfi hIH455 sx_25 rfl (fun v459 ev459 lv459 uv459 => ?_)
      refine g_if2_ge (fun c460 => ?_) (fun c460 => ?_)
      · refine g_aload_n rfl ?_
        refine g_gfr hIH455 sx_24 rfl ?_
        refine g_iload_n rfl ?_
        refine g_invvi hIH455 sx_28 rfl rfl rfl rfl (s_88 28 zWo_28 a1 (by first | with_reducible assumption | omega) H455 hIH455 hJH455) (fun v463 H461 r462 => ?_)
        obtain ⟨rfl, bv463⟩ := r462
        refine g_if_eq (fun c464 => ?_) (fun c464 => ?_)
        · refine g_bipush (by decide) (fun v465 kv465 => ?_)
          refine g_nop ?_
          exact g_iret ⟨_, rfl, hIH455, hJH455, (e456.symm.trans ek1_1), m457⟩
        · refine g_iload_n rfl ?_
          refine g_goto ?_
          exact g_iret ⟨_, rfl, hIH455, hJH455, (e456.symm.trans ek1_1), m457⟩
      · refine g_aload_n rfl ?_
        refine g_iload rfl ?_
        refine g_invvi hIH455 sx_24 rfl rfl rfl rfl (s_53 v454 (by first | with_reducible assumption | omega) H455 hIH455 hJH455) (fun v468 H466 r467 => ?_)
        obtain ⟨hIH466, hJH466, w469, m470⟩ := r467
        have e471 : k1_1 = fZ H466 1 1 := e456.trans w469.symm
        have m472 : kpX H H466 := kpX_t m457 m470
        refine g_pop rfl ?_
        refine g_aload_n rfl ?_
        refine g_gfr hIH466 sx_24 rfl ?_
        refine g_iload_n rfl ?_
        refine g_invvi hIH466 sx_28 rfl rfl rfl rfl (s_91 28 zWo_28 a1 (by first | with_reducible assumption | omega) H466 hIH466 hJH466) (fun v475 H473 r474 => ?_)
        obtain rfl := r474
        refine g_istore (l' := [(0, .ref 24), (1, .int a1), (2, .int v452), (3, .int v453), (4, .int v454), (5, .int v475)]) rfl rfl ?_
        refine g_iload rfl ?_
        refine g_if_lt (fun c476 => ?_) (fun c476 => ?_)
        · refine g_iinc (l' := (fun v477 => [(0, .ref 24), (1, .int a1), (2, .int v452), (3, .int v453), (4, .int v477), (5, .int v475)])) rfl rfl (by decide) (by first | with_reducible assumption | omega) (fun _ => rfl) (fun v477 ev477 => ?_)
          refine g_goto ?_
          refine gG_pick [0, 1, 2, 3, 4] (l' := [(0, .ref 24), (1, .int a1), (2, .int v452), (3, .int v453), (4, .int v477)]) rfl ?_
          exact ihL458 v452 v453 v477 H466 hIH466 hJH466 e471 m472 (by have := gz_any v452; omega) (by first | with_reducible assumption | omega) (by first | with_reducible assumption | omega)
        · refine g_iload_n rfl ?_
          refine g_iconst (by decide) (fun v478 kv478 => ?_)
          refine g_aload_n rfl ?_
          refine g_gfr hIH466 sx_24 rfl ?_
          refine g_iload_n rfl ?_
          refine g_iload rfl ?_
          refine g_invvi hIH466 sx_3 rfl rfl rfl rfl (s_17 3 zBo_3 v452 v475 H466 hIH466 hJH466) (fun v481 H479 r480 => ?_)
          obtain rfl := r480
          refine g_max rfl (fun v482 av482 bv482 dv482 => ?_)
          refine g_iadd' (fun v483 ov483 => ?_)
          refine g_istore_n (l' := [(0, .ref 24), (1, .int a1), (2, .int v452), (3, .int v483), (4, .int v454), (5, .int v475)]) rfl rfl ?_
          refine g_iload rfl ?_
          refine g_istore_n (l' := [(0, .ref 24), (1, .int a1), (2, .int v475), (3, .int v483), (4, .int v454), (5, .int v475)]) rfl rfl ?_
          refine g_nop ?_
          refine g_iinc (l' := (fun v484 => [(0, .ref 24), (1, .int a1), (2, .int v475), (3, .int v483), (4, .int v484), (5, .int v475)])) rfl rfl (by decide) (by first | with_reducible assumption | omega) (fun _ => rfl) (fun v484 ev484 => ?_)
          refine g_goto ?_
          refine gG_pick [0, 1, 2, 3, 4] (l' := [(0, .ref 24), (1, .int a1), (2, .int v475), (3, .int v483), (4, .int v484)]) rfl ?_
          exact ihL458 v475 v483 v484 H466 hIH466 hJH466 e471 m472 (by have := gz_any v475; omega) (by first | with_reducible assumption | omega) (by first | with_reducible assumption | omega)
  exact L458 _ v449 v450 v451 H443 hIH443 hJH443 e447 m448 (by have := gz_any v449; omega) (by first | with_reducible assumption | omega) (Nat.lt_succ_self _)
set_option maxRecDepth 4000 in
set_option maxHeartbeats 4000000 in
/-- X5.busiest -/
theorem s_63 (a1 : Int32) (a2 : Int32) (ha2 : 0 ≤ a2.toInt ∧ a2.toInt ≤ 1) (H : mzH) (hI : gI SX H) (hJ : JX H) : gCall 63 [.ref 24, .int a1, .int a2] H (gRi (fun v H' => gI SX H' ∧ JX H' ∧ fZ H' 1 1 = fZ H 1 1 ∧ kpX H H')) := by
  obtain ⟨k1_1, ek1_1⟩ : ∃ z, z = fZ H 1 1 := ⟨_, rfl⟩
  have ik1_1 : k1_1.toInt = (fZ H 1 1).toInt := by rw [← ek1_1]
  have bk1_1 : 0 ≤ k1_1.toInt ∧ k1_1.toInt ≤ 900 := by rw [ek1_1]; exact fZ_of hI sx_1 rfl
  have mkfr : kpX H H := kpX_r
  refine gG_call [(0, .ref 24), (1, .int a1), (2, .int a2)] ⟨rfl, rfl, rfl, trivial⟩ ?_
  show gG 7 zB_63 (mzBlk zB_63 0) [(0, .ref 24), (1, .int a1), (2, .int a2)] [] H 0 0 _
  refine g_aload_n rfl ?_
  refine g_gfr hI sx_24 rfl ?_
  refine g_invvv hI sx_28 rfl rfl rfl rfl (s_83 28 zWo_28 H hI hJ) (fun H429 r430 => ?_)
  obtain ⟨hIH429, hJH429, w431, m432⟩ := r430
  have e433 : k1_1 = fZ H429 1 1 := ek1_1.trans w431.symm
  have m434 : kpX H H429 := kpX_t mkfr m432
  refine g_iconst (by decide) (fun v435 kv435 => ?_)
  refine g_istore_n (l' := [(0, .ref 24), (1, .int a1), (2, .int a2), (3, .int v435)]) rfl rfl ?_
  refine g_bipush (by decide) (fun v436 kv436 => ?_)
  refine g_istore (l' := [(0, .ref 24), (1, .int a1), (2, .int a2), (3, .int v435), (4, .int v436)]) rfl rfl ?_
  refine g_iconst (by decide) (fun v437 kv437 => ?_)
  refine g_istore (l' := [(0, .ref 24), (1, .int a1), (2, .int a2), (3, .int v435), (4, .int v436), (5, .int v437)]) rfl rfl ?_
  refine g_nop ?_
  have L444 : ∀ (N : Nat) (v438 : Int32) (v439 : Int32) (v440 : Int32) (H441 : mzH), gI SX H441 → JX H441 → k1_1 = fZ H441 1 1 → kpX H H441 → (-1 ≤ v438.toInt ∧ v438.toInt ≤ 2147483647) → (0 ≤ v440.toInt ∧ v440.toInt ≤ 60) → (60 - v440.toInt).toNat < N → gG 7 zB_63 (mzBlk zB_63 1) [(0, .ref 24), (1, .int a1), (2, .int a2), (3, .int v438), (4, .int v439), (5, .int v440)] [] H441 0 0 (gRi (fun v H' => gI SX H' ∧ JX H' ∧ fZ H' 1 1 = fZ H 1 1 ∧ kpX H H')) := by
    intro N
    induction N with
    | zero => intro v438 v439 v440 H441 hIH441 hJH441 e442 m443 bv438 bv440 hmL444; exact absurd hmL444 (Nat.not_lt_zero _)
    | succ N ihL444 =>
      intro v438 v439 v440 H441 hIH441 hJH441 e442 m443 bv438 bv440 hmL444
      refine g_iload rfl ?_
      refine g_aload_n rfl ?_
      refine g_gfr hIH441 sx_24 rfl ?_
      refine g_gfi hIH441 sx_25 rfl (fun v445 ev445 lv445 uv445 => ?_)
      refine g_if2_ge (fun c446 => ?_) (fun c446 => ?_)
      · refine g_iload_n rfl ?_
        refine g_if_eq (fun c447 => ?_) (fun c447 => ?_)
        · refine g_iload rfl ?_
          refine g_nop ?_
          exact g_iret ⟨_, rfl, hIH441, hJH441, (e442.symm.trans ek1_1), m443⟩
        · refine g_iconst (by decide) (fun v448 kv448 => ?_)
          refine g_iload_n rfl ?_
          refine g_max rfl (fun v449 av449 bv449 dv449 => ?_)
          refine g_goto ?_
          exact g_iret ⟨_, rfl, hIH441, hJH441, (e442.symm.trans ek1_1), m443⟩
      · refine g_aload_n rfl ?_
        refine g_iload rfl ?_
        refine g_invvi hIH441 sx_24 rfl rfl rfl rfl (s_53 v440 (by first | with_reducible assumption | omega) H441 hIH441 hJH441) (fun v452 H450 r451 => ?_)
        obtain ⟨hIH450, hJH450, w453, m454⟩ := r451
        have e455 : k1_1 = fZ H450 1 1 := e442.trans w453.symm
        have m456 : kpX H H450 := kpX_t m443 m454
        refine g_pop rfl ?_
        refine g_aload_n rfl ?_
        refine g_gfr hIH450 sx_24 rfl ?_
        refine g_iload_n rfl ?_
        refine g_invvl hIH450 sx_28 rfl rfl rfl rfl (s_105 28 zWo_28 a1 H450 hIH450 hJH450) (fun v459 H457 r458 => ?_)
        obtain rfl := r458
        refine g_invti rfl rfl rfl (s_253 v459 H450 hIH450 hJH450) (fun v462 H460 r461 => ?_)
        obtain rfl := r461
        refine g_istore (l' := [(0, .ref 24), (1, .int a1), (2, .int a2), (3, .int v438), (4, .int v439), (5, .int v440), (6, .int v462)]) rfl rfl ?_
        refine g_iload rfl ?_
        refine g_iload_n rfl ?_
        refine g_if2_le (fun c463 => ?_) (fun c463 => ?_)
        · refine g_iinc (l' := (fun v464 => [(0, .ref 24), (1, .int a1), (2, .int a2), (3, .int v438), (4, .int v439), (5, .int v464), (6, .int v462)])) rfl rfl (by decide) (by first | with_reducible assumption | omega) (fun _ => rfl) (fun v464 ev464 => ?_)
          refine g_goto ?_
          refine gG_pick [0, 1, 2, 3, 4, 5] (l' := [(0, .ref 24), (1, .int a1), (2, .int a2), (3, .int v438), (4, .int v439), (5, .int v464)]) rfl ?_
          exact ihL444 v438 v439 v464 H450 hIH450 hJH450 e455 m456 (by have := gz_any v438; omega) (by first | with_reducible assumption | omega) (by first | with_reducible assumption | omega)
        · refine g_iload rfl ?_
          refine g_istore_n (l' := [(0, .ref 24), (1, .int a1), (2, .int a2), (3, .int v462), (4, .int v439), (5, .int v440), (6, .int v462)]) rfl rfl ?_
          refine g_aload_n rfl ?_
          refine g_gfr hIH450 sx_24 rfl ?_
          refine g_iload rfl ?_
          refine g_invvi hIH450 sx_25 rfl rfl rfl rfl (s_27 25 zCo_25 v440 (by first | with_reducible assumption | omega) H450 hIH450 hJH450) (fun v467 H465 r466 => ?_)
          obtain rfl := r466
          refine g_istore (l' := [(0, .ref 24), (1, .int a1), (2, .int a2), (3, .int v462), (4, .int v467), (5, .int v440), (6, .int v462)]) rfl rfl ?_
          refine g_nop ?_
          refine g_iinc (l' := (fun v468 => [(0, .ref 24), (1, .int a1), (2, .int a2), (3, .int v462), (4, .int v467), (5, .int v468), (6, .int v462)])) rfl rfl (by decide) (by first | with_reducible assumption | omega) (fun _ => rfl) (fun v468 ev468 => ?_)
          refine g_goto ?_
          refine gG_pick [0, 1, 2, 3, 4, 5] (l' := [(0, .ref 24), (1, .int a1), (2, .int a2), (3, .int v462), (4, .int v467), (5, .int v468)]) rfl ?_
          exact ihL444 v462 v467 v468 H450 hIH450 hJH450 e455 m456 (by have := gz_any v462; omega) (by first | with_reducible assumption | omega) (by first | with_reducible assumption | omega)
  exact L444 _ v435 v436 v437 H429 hIH429 hJH429 e433 m434 (by have := gz_any v435; omega) (by first | with_reducible assumption | omega) (Nat.lt_succ_self _)
set_option maxRecDepth 4000 in
set_option maxHeartbeats 4000000 in
/-- X8.withCompany -/
theorem s_107 (w : Nat) (hw : zWo w) (a1 : Int64) (H : mzH) (hI : gI SX H) (hJ : JX H) : gCall 107 [.ref w, .long a1] H (gRl (fun _ H' => H = H')) := by
  obtain ⟨hwr, hw0, hw1, hw2, hw3, hw4, hw5, hw6⟩ := id hw
  refine gG_call [(0, .ref w), (1, .long a1)] ⟨rfl, rfl, trivial⟩ ?_
  show gG 8 zB_107 (mzBlk zB_107 0) [(0, .ref w), (1, .long a1)] [] H 0 0 _
  refine g_lconst (fun v553 _ => ?_)
  refine g_lstore_n (l' := [(0, .ref w), (1, .long a1), (3, .long v553)]) rfl rfl ?_
  refine g_iconst (by decide) (fun v554 kv554 => ?_)
  refine g_istore (l' := [(0, .ref w), (1, .long a1), (3, .long v553), (5, .int v554)]) rfl rfl ?_
  refine g_nop ?_
  have L557 : ∀ (N : Nat) (v555 : Int64) (v556 : Int32), (0 ≤ v556.toInt ∧ v556.toInt ≤ 40) → (40 - v556.toInt).toNat < N → gG 8 zB_107 (mzBlk zB_107 1) [(0, .ref w), (1, .long a1), (3, .long v555), (5, .int v556)] [] H 0 0 (gRl (fun _ H' => H = H')) := by
    intro N
    induction N with
    | zero => intro v555 v556 bv556 hmL557; exact absurd hmL557 (Nat.not_lt_zero _)
    | succ N ihL557 =>
      intro v555 v556 bv556 hmL557
      refine g_iload rfl ?_
      refine g_bipush (by decide) (fun v558 kv558 => ?_)
      refine g_if2_ge (fun c559 => ?_) (fun c559 => ?_)
      · refine g_lload_n rfl ?_
        refine g_lstore (l' := [(0, .ref w), (1, .long a1), (3, .long v555), (5, .long a1)]) rfl rfl ?_
        refine g_iconst (by decide) (fun v560 kv560 => ?_)
        refine g_istore (l' := [(0, .ref w), (1, .long a1), (3, .long v555), (5, .long a1), (7, .int v560)]) rfl rfl ?_
        refine g_nop ?_
        have L563 : ∀ (N : Nat) (v561 : Int64) (v562 : Int32), (0 ≤ v562.toInt ∧ v562.toInt ≤ 40) → (40 - v562.toInt).toNat < N → gG 8 zB_107 (mzBlk zB_107 4) [(0, .ref w), (1, .long a1), (3, .long v555), (5, .long v561), (7, .int v562)] [] H 0 0 (gRl (fun _ H' => H = H')) := by
          intro N
          induction N with
          | zero => intro v561 v562 bv562 hmL563; exact absurd hmL563 (Nat.not_lt_zero _)
          | succ N ihL563 =>
            intro v561 v562 bv562 hmL563
            refine g_iload rfl ?_
            refine g_bipush (by decide) (fun v564 kv564 => ?_)
            refine g_if2_ge (fun c565 => ?_) (fun c565 => ?_)
            · refine g_lload rfl ?_
              exact g_lret ⟨_, rfl, rfl⟩
            · refine g_lload_n rfl ?_
              refine g_aload_n rfl ?_
              refine g_iload rfl ?_
              refine g_invvi hI hw0 rfl rfl rfl rfl (s_89 w hw v562 (by first | with_reducible assumption | omega) H hI hJ) (fun v568 H566 r567 => ?_)
              obtain ⟨rfl, bv568⟩ := r567
              refine g_lushr (fun v569 _ => ?_)
              refine g_lconst (fun v570 _ => ?_)
              refine g_land (fun v571 _ => ?_)
              refine g_lconst (fun v572 _ => ?_)
              refine g_lcmp (fun v573 _ => ?_)
              refine g_if_eq (fun c574 => ?_) (fun c574 => ?_)
              · refine g_iinc (l' := (fun v575 => [(0, .ref w), (1, .long a1), (3, .long v555), (5, .long v561), (7, .int v575)])) rfl rfl (by decide) (by first | with_reducible assumption | omega) (fun _ => rfl) (fun v575 ev575 => ?_)
                refine g_goto ?_
                exact ihL563 v561 v575 (by first | with_reducible assumption | omega) (by first | with_reducible assumption | omega)
              · refine g_lload rfl ?_
                refine g_lconst (fun v576 _ => ?_)
                refine g_iload rfl ?_
                refine g_lshl (fun v577 _ => ?_)
                refine g_lor (fun v578 _ => ?_)
                refine g_lstore (l' := [(0, .ref w), (1, .long a1), (3, .long v555), (5, .long v578), (7, .int v562)]) rfl rfl ?_
                refine g_nop ?_
                refine g_iinc (l' := (fun v579 => [(0, .ref w), (1, .long a1), (3, .long v555), (5, .long v578), (7, .int v579)])) rfl rfl (by decide) (by first | with_reducible assumption | omega) (fun _ => rfl) (fun v579 ev579 => ?_)
                refine g_goto ?_
                exact ihL563 v578 v579 (by first | with_reducible assumption | omega) (by first | with_reducible assumption | omega)
        exact L563 _ a1 v560 (by first | with_reducible assumption | omega) (Nat.lt_succ_self _)
      · refine g_lload_n rfl ?_
        refine g_iload rfl ?_
        refine g_lushr (fun v580 _ => ?_)
        refine g_lconst (fun v581 _ => ?_)
        refine g_land (fun v582 _ => ?_)
        refine g_lconst (fun v583 _ => ?_)
        refine g_lcmp (fun v584 _ => ?_)
        refine g_if_eq (fun c585 => ?_) (fun c585 => ?_)
        · refine g_iinc (l' := (fun v586 => [(0, .ref w), (1, .long a1), (3, .long v555), (5, .int v586)])) rfl rfl (by decide) (by first | with_reducible assumption | omega) (fun _ => rfl) (fun v586 ev586 => ?_)
          refine g_goto ?_
          exact ihL557 v555 v586 (by first | with_reducible assumption | omega) (by first | with_reducible assumption | omega)
        · refine g_aload_n rfl ?_
          refine g_iload rfl ?_
          refine g_iconst (by decide) (fun v587 kv587 => ?_)
          refine g_invvi hI hw0 rfl rfl rfl rfl (s_85 w hw v556 (by first | with_reducible assumption | omega) v587 H hI hJ) (fun v590 H588 r589 => ?_)
          obtain ⟨rfl, bv590⟩ := r589
          refine g_if_ne (fun c591 => ?_) (fun c591 => ?_)
          · refine g_iinc (l' := (fun v592 => [(0, .ref w), (1, .long a1), (3, .long v555), (5, .int v592)])) rfl rfl (by decide) (by first | with_reducible assumption | omega) (fun _ => rfl) (fun v592 ev592 => ?_)
            refine g_goto ?_
            exact ihL557 v555 v592 (by first | with_reducible assumption | omega) (by first | with_reducible assumption | omega)
          · refine g_lload_n rfl ?_
            refine g_lconst (fun v593 _ => ?_)
            refine g_aload_n rfl ?_
            refine g_iload rfl ?_
            refine g_invvi hI hw0 rfl rfl rfl rfl (s_89 w hw v556 (by first | with_reducible assumption | omega) H hI hJ) (fun v596 H594 r595 => ?_)
            obtain ⟨rfl, bv596⟩ := r595
            refine g_lshl (fun v597 _ => ?_)
            refine g_lor (fun v598 _ => ?_)
            refine g_lstore_n (l' := [(0, .ref w), (1, .long a1), (3, .long v598), (5, .int v556)]) rfl rfl ?_
            refine g_nop ?_
            refine g_iinc (l' := (fun v599 => [(0, .ref w), (1, .long a1), (3, .long v598), (5, .int v599)])) rfl rfl (by decide) (by first | with_reducible assumption | omega) (fun _ => rfl) (fun v599 ev599 => ?_)
            refine g_goto ?_
            exact ihL557 v598 v599 (by first | with_reducible assumption | omega) (by first | with_reducible assumption | omega)
  exact L557 _ v553 v554 (by first | with_reducible assumption | omega) (Nat.lt_succ_self _)
set_option maxRecDepth 4000 in
set_option maxHeartbeats 4000000 in
/-- X5.allMet -/
theorem s_64 (a1 : Int32) (ha1 : 0 ≤ a1.toInt ∧ a1.toInt ≤ 39) (a2 : Int32) (H : mzH) (hI : gI SX H) (hJ : JX H) : gCall 64 [.ref 24, .int a1, .int a2] H (gRl (fun _ H' => gI SX H' ∧ JX H' ∧ fZ H' 1 1 = fZ H 1 1 ∧ kpX H H')) := by
  obtain ⟨k1_1, ek1_1⟩ : ∃ z, z = fZ H 1 1 := ⟨_, rfl⟩
  have ik1_1 : k1_1.toInt = (fZ H 1 1).toInt := by rw [← ek1_1]
  have bk1_1 : 0 ≤ k1_1.toInt ∧ k1_1.toInt ≤ 900 := by rw [ek1_1]; exact fZ_of hI sx_1 rfl
  have mkfr : kpX H H := kpX_r
  refine gG_call [(0, .ref 24), (1, .int a1), (2, .int a2)] ⟨rfl, rfl, rfl, trivial⟩ ?_
  show gG 7 zB_64 (mzBlk zB_64 0) [(0, .ref 24), (1, .int a1), (2, .int a2)] [] H 0 0 _
  refine g_aload_n rfl ?_
  refine g_iload_n rfl ?_
  refine g_invvi hI sx_24 rfl rfl rfl rfl (s_54 a2 H hI hJ) (fun v163 H161 r162 => ?_)
  obtain ⟨hIH161, hJH161, bv163, w164, m165⟩ := r162
  have e166 : k1_1 = fZ H161 1 1 := ek1_1.trans w164.symm
  have m167 : kpX H H161 := kpX_t mkfr m165
  refine g_istore_n (l' := [(0, .ref 24), (1, .int a1), (2, .int a2), (3, .int v163)]) rfl rfl ?_
  refine g_aload_n rfl ?_
  refine g_gfr hIH161 sx_24 rfl ?_
  refine g_iload_n rfl ?_
  refine g_invvi hIH161 sx_28 rfl rfl rfl rfl (s_88 28 zWo_28 a1 (by first | with_reducible assumption | omega) H161 hIH161 hJH161) (fun v170 H168 r169 => ?_)
  obtain ⟨rfl, bv170⟩ := r169
  refine g_if_eq (fun c171 => ?_) (fun c171 => ?_)
  · refine g_lconst (fun v172 _ => ?_)
    exact g_lret ⟨_, rfl, hIH161, hJH161, (e166.symm.trans ek1_1), m167⟩
  · refine g_aload_n rfl ?_
    refine g_gfr hIH161 sx_24 rfl ?_
    refine g_iload_n rfl ?_
    refine g_iconst (by decide) (fun v173 kv173 => ?_)
    refine g_invvi hIH161 sx_28 rfl rfl rfl rfl (s_85 28 zWo_28 a1 (by first | with_reducible assumption | omega) v173 H161 hIH161 hJH161) (fun v176 H174 r175 => ?_)
    obtain ⟨rfl, bv176⟩ := r175
    refine g_if_eq (fun c177 => ?_) (fun c177 => ?_)
    · refine g_aload_n rfl ?_
      refine g_gfr hIH161 sx_24 rfl ?_
      refine g_lconst (fun v178 _ => ?_)
      refine g_iload_n rfl ?_
      refine g_lshl (fun v179 _ => ?_)
      refine g_invvl hIH161 sx_28 rfl rfl rfl rfl (s_107 28 zWo_28 v179 H161 hIH161 hJH161) (fun v182 H180 r181 => ?_)
      obtain rfl := r181
      refine g_lstore (l' := [(0, .ref 24), (1, .int a1), (2, .int a2), (3, .int v163), (4, .long v182)]) rfl rfl ?_
      refine g_iload_n rfl ?_
      refine g_istore (l' := [(0, .ref 24), (1, .int a1), (2, .int a2), (3, .int v163), (4, .long v182), (6, .int v163)]) rfl rfl ?_
      refine g_nop ?_
      have L188 : ∀ (N : Nat) (v183 : Int64) (v184 : Int32) (H185 : mzH), gI SX H185 → JX H185 → k1_1 = fZ H185 1 1 → kpX H H185 → (0 ≤ v184.toInt ∧ v184.toInt ≤ 60) → (60 - v184.toInt).toNat < N → gG 7 zB_64 (mzBlk zB_64 3) [(0, .ref 24), (1, .int a1), (2, .int a2), (3, .int v163), (4, .long v183), (6, .int v184)] [] H185 0 0 (gRl (fun _ H' => gI SX H' ∧ JX H' ∧ fZ H' 1 1 = fZ H 1 1 ∧ kpX H H')) := by
        intro N
        induction N with
        | zero => intro v183 v184 H185 hIH185 hJH185 e186 m187 bv184 hmL188; exact absurd hmL188 (Nat.not_lt_zero _)
        | succ N ihL188 =>
          intro v183 v184 H185 hIH185 hJH185 e186 m187 bv184 hmL188
          refine g_iload rfl ?_
          refine g_aload_n rfl ?_
          refine g_gfr hIH185 sx_24 rfl ?_
          refine g_gfi hIH185 sx_25 rfl (fun v189 ev189 lv189 uv189 => ?_)
          refine g_if2_ge (fun c190 => ?_) (fun c190 => ?_)
          · refine g_lload rfl ?_
            exact g_lret ⟨_, rfl, hIH185, hJH185, (e186.symm.trans ek1_1), m187⟩
          · refine g_aload_n rfl ?_
            refine g_iload rfl ?_
            refine g_invvi hIH185 sx_24 rfl rfl rfl rfl (s_53 v184 (by first | with_reducible assumption | omega) H185 hIH185 hJH185) (fun v193 H191 r192 => ?_)
            obtain ⟨hIH191, hJH191, w194, m195⟩ := r192
            have e196 : k1_1 = fZ H191 1 1 := e186.trans w194.symm
            have m197 : kpX H H191 := kpX_t m187 m195
            refine g_pop rfl ?_
            refine g_aload_n rfl ?_
            refine g_gfr hIH191 sx_24 rfl ?_
            refine g_lload rfl ?_
            refine g_invvl hIH191 sx_28 rfl rfl rfl rfl (s_107 28 zWo_28 v183 H191 hIH191 hJH191) (fun v200 H198 r199 => ?_)
            obtain rfl := r199
            refine g_lstore (l' := [(0, .ref 24), (1, .int a1), (2, .int a2), (3, .int v163), (4, .long v200), (6, .int v184)]) rfl rfl ?_
            refine g_iinc (l' := (fun v201 => [(0, .ref 24), (1, .int a1), (2, .int a2), (3, .int v163), (4, .long v200), (6, .int v201)])) rfl rfl (by decide) (by first | with_reducible assumption | omega) (fun _ => rfl) (fun v201 ev201 => ?_)
            refine g_goto ?_
            exact ihL188 v200 v201 H191 hIH191 hJH191 e196 m197 (by first | with_reducible assumption | omega) (by first | with_reducible assumption | omega)
      exact L188 _ v182 v163 H161 hIH161 hJH161 e166 m167 (by first | with_reducible assumption | omega) (Nat.lt_succ_self _)
    · refine g_nop ?_
      refine g_lconst (fun v202 _ => ?_)
      exact g_lret ⟨_, rfl, hIH161, hJH161, (e166.symm.trans ek1_1), m167⟩
set_option maxRecDepth 4000 in
set_option maxHeartbeats 4000000 in
/-- X8.contents -/
theorem s_104 (w : Nat) (hw : zWo w) (a1 : Int32) (H : mzH) (hI : gI SX H) (hJ : JX H) : gCall 104 [.ref w, .int a1] H (gRl (fun _ H' => H = H')) := by
  obtain ⟨hwr, hw0, hw1, hw2, hw3, hw4, hw5, hw6⟩ := id hw
  refine gG_call [(0, .ref w), (1, .int a1)] ⟨rfl, rfl, trivial⟩ ?_
  show gG 5 zB_104 (mzBlk zB_104 0) [(0, .ref w), (1, .int a1)] [] H 0 0 _
  refine g_lconst (fun v177 _ => ?_)
  refine g_lstore_n (l' := [(0, .ref w), (1, .int a1), (2, .long v177)]) rfl rfl ?_
  refine g_iconst (by decide) (fun v178 kv178 => ?_)
  refine g_istore (l' := [(0, .ref w), (1, .int a1), (2, .long v177), (4, .int v178)]) rfl rfl ?_
  refine g_nop ?_
  have L181 : ∀ (N : Nat) (v179 : Int64) (v180 : Int32), (0 ≤ v180.toInt ∧ v180.toInt ≤ 40) → (40 - v180.toInt).toNat < N → gG 5 zB_104 (mzBlk zB_104 1) [(0, .ref w), (1, .int a1), (2, .long v179), (4, .int v180)] [] H 0 0 (gRl (fun _ H' => H = H')) := by
    intro N
    induction N with
    | zero => intro v179 v180 bv180 hmL181; exact absurd hmL181 (Nat.not_lt_zero _)
    | succ N ihL181 =>
      intro v179 v180 bv180 hmL181
      refine g_iload rfl ?_
      refine g_bipush (by decide) (fun v182 kv182 => ?_)
      refine g_if2_ge (fun c183 => ?_) (fun c183 => ?_)
      · refine g_lload_n rfl ?_
        exact g_lret ⟨_, rfl, rfl⟩
      · refine g_aload_n rfl ?_
        refine g_iload rfl ?_
        refine g_iload_n rfl ?_
        refine g_invvi hI hw0 rfl rfl rfl rfl (s_90 w hw v180 (by first | with_reducible assumption | omega) a1 H hI hJ) (fun v186 H184 r185 => ?_)
        obtain ⟨rfl, bv186⟩ := r185
        refine g_if_eq (fun c187 => ?_) (fun c187 => ?_)
        · refine g_iinc (l' := (fun v188 => [(0, .ref w), (1, .int a1), (2, .long v179), (4, .int v188)])) rfl rfl (by decide) (by first | with_reducible assumption | omega) (fun _ => rfl) (fun v188 ev188 => ?_)
          refine g_goto ?_
          exact ihL181 v179 v188 (by first | with_reducible assumption | omega) (by first | with_reducible assumption | omega)
        · refine g_lload_n rfl ?_
          refine g_lconst (fun v189 _ => ?_)
          refine g_iload rfl ?_
          refine g_lshl (fun v190 _ => ?_)
          refine g_lor (fun v191 _ => ?_)
          refine g_lstore_n (l' := [(0, .ref w), (1, .int a1), (2, .long v191), (4, .int v180)]) rfl rfl ?_
          refine g_nop ?_
          refine g_iinc (l' := (fun v192 => [(0, .ref w), (1, .int a1), (2, .long v191), (4, .int v192)])) rfl rfl (by decide) (by first | with_reducible assumption | omega) (fun _ => rfl) (fun v192 ev192 => ?_)
          refine g_goto ?_
          exact ihL181 v191 v192 (by first | with_reducible assumption | omega) (by first | with_reducible assumption | omega)
  exact L181 _ v177 v178 (by first | with_reducible assumption | omega) (Nat.lt_succ_self _)
set_option maxRecDepth 4000 in
set_option maxHeartbeats 4000000 in
/-- X5.allHeld -/
theorem s_65 (a1 : Int32) (a2 : Int32) (a3 : Int32) (H : mzH) (hI : gI SX H) (hJ : JX H) : gCall 65 [.ref 24, .int a1, .int a2, .int a3] H (gRl (fun _ H' => gI SX H' ∧ JX H' ∧ fZ H' 1 1 = fZ H 1 1 ∧ kpX H H')) := by
  obtain ⟨k1_1, ek1_1⟩ : ∃ z, z = fZ H 1 1 := ⟨_, rfl⟩
  have ik1_1 : k1_1.toInt = (fZ H 1 1).toInt := by rw [← ek1_1]
  have bk1_1 : 0 ≤ k1_1.toInt ∧ k1_1.toInt ≤ 900 := by rw [ek1_1]; exact fZ_of hI sx_1 rfl
  have mkfr : kpX H H := kpX_r
  refine gG_call [(0, .ref 24), (1, .int a1), (2, .int a2), (3, .int a3)] ⟨rfl, rfl, rfl, rfl, trivial⟩ ?_
  show gG 8 zB_65 (mzBlk zB_65 0) [(0, .ref 24), (1, .int a1), (2, .int a2), (3, .int a3)] [] H 0 0 _
  refine g_aload_n rfl ?_
  refine g_iload_n rfl ?_
  refine g_invvi hI sx_24 rfl rfl rfl rfl (s_54 a2 H hI hJ) (fun v135 H133 r134 => ?_)
  obtain ⟨hIH133, hJH133, bv135, w136, m137⟩ := r134
  have e138 : k1_1 = fZ H133 1 1 := ek1_1.trans w136.symm
  have m139 : kpX H H133 := kpX_t mkfr m137
  refine g_istore (l' := [(0, .ref 24), (1, .int a1), (2, .int a2), (3, .int a3), (4, .int v135)]) rfl rfl ?_
  refine g_aload_n rfl ?_
  refine g_gfr hIH133 sx_24 rfl ?_
  refine g_iload_n rfl ?_
  refine g_invvl hIH133 sx_28 rfl rfl rfl rfl (s_104 28 zWo_28 a1 H133 hIH133 hJH133) (fun v142 H140 r141 => ?_)
  obtain rfl := r141
  refine g_lstore (l' := [(0, .ref 24), (1, .int a1), (2, .int a2), (3, .int a3), (4, .int v135), (5, .long v142)]) rfl rfl ?_
  refine g_iload rfl ?_
  refine g_istore (l' := [(0, .ref 24), (1, .int a1), (2, .int a2), (3, .int a3), (4, .int v135), (5, .long v142), (7, .int v135)]) rfl rfl ?_
  refine g_nop ?_
  have L148 : ∀ (N : Nat) (v143 : Int64) (v144 : Int32) (H145 : mzH), gI SX H145 → JX H145 → k1_1 = fZ H145 1 1 → kpX H H145 → (0 ≤ v144.toInt ∧ v144.toInt ≤ 60) → (60 - v144.toInt).toNat < N → gG 8 zB_65 (mzBlk zB_65 1) [(0, .ref 24), (1, .int a1), (2, .int a2), (3, .int a3), (4, .int v135), (5, .long v143), (7, .int v144)] [] H145 0 0 (gRl (fun _ H' => gI SX H' ∧ JX H' ∧ fZ H' 1 1 = fZ H 1 1 ∧ kpX H H')) := by
    intro N
    induction N with
    | zero => intro v143 v144 H145 hIH145 hJH145 e146 m147 bv144 hmL148; exact absurd hmL148 (Nat.not_lt_zero _)
    | succ N ihL148 =>
      intro v143 v144 H145 hIH145 hJH145 e146 m147 bv144 hmL148
      refine g_iload rfl ?_
      refine g_aload_n rfl ?_
      refine g_gfr hIH145 sx_24 rfl ?_
      refine g_gfi hIH145 sx_25 rfl (fun v149 ev149 lv149 uv149 => ?_)
      refine g_if2_ge (fun c150 => ?_) (fun c150 => ?_)
      · refine g_lload rfl ?_
        exact g_lret ⟨_, rfl, hIH145, hJH145, (e146.symm.trans ek1_1), m147⟩
      · refine g_aload_n rfl ?_
        refine g_gfr hIH145 sx_24 rfl ?_
        refine g_iload rfl ?_
        refine g_invvi hIH145 sx_25 rfl rfl rfl rfl (s_27 25 zCo_25 v144 (by first | with_reducible assumption | omega) H145 hIH145 hJH145) (fun v153 H151 r152 => ?_)
        obtain rfl := r152
        refine g_iload_n rfl ?_
        refine g_if2_gt (fun c154 => ?_) (fun c154 => ?_)
        · refine g_lload rfl ?_
          exact g_lret ⟨_, rfl, hIH145, hJH145, (e146.symm.trans ek1_1), m147⟩
        · refine g_aload_n rfl ?_
          refine g_iload rfl ?_
          refine g_invvi hIH145 sx_24 rfl rfl rfl rfl (s_53 v144 (by first | with_reducible assumption | omega) H145 hIH145 hJH145) (fun v157 H155 r156 => ?_)
          obtain ⟨hIH155, hJH155, w158, m159⟩ := r156
          have e160 : k1_1 = fZ H155 1 1 := e146.trans w158.symm
          have m161 : kpX H H155 := kpX_t m147 m159
          refine g_pop rfl ?_
          refine g_lload rfl ?_
          refine g_aload_n rfl ?_
          refine g_gfr hIH155 sx_24 rfl ?_
          refine g_iload_n rfl ?_
          refine g_invvl hIH155 sx_28 rfl rfl rfl rfl (s_104 28 zWo_28 a1 H155 hIH155 hJH155) (fun v164 H162 r163 => ?_)
          obtain rfl := r163
          refine g_lor (fun v165 _ => ?_)
          refine g_lstore (l' := [(0, .ref 24), (1, .int a1), (2, .int a2), (3, .int a3), (4, .int v135), (5, .long v165), (7, .int v144)]) rfl rfl ?_
          refine g_iinc (l' := (fun v166 => [(0, .ref 24), (1, .int a1), (2, .int a2), (3, .int a3), (4, .int v135), (5, .long v165), (7, .int v166)])) rfl rfl (by decide) (by first | with_reducible assumption | omega) (fun _ => rfl) (fun v166 ev166 => ?_)
          refine g_goto ?_
          exact ihL148 v165 v166 H155 hIH155 hJH155 e160 m161 (by first | with_reducible assumption | omega) (by first | with_reducible assumption | omega)
  exact L148 _ v142 v135 H133 hIH133 hJH133 e138 m139 (by first | with_reducible assumption | omega) (Nat.lt_succ_self _)
set_option maxRecDepth 4000 in
set_option maxHeartbeats 4000000 in
/-- X5.mostHeld -/
theorem s_66 (a1 : Int32) (ha1 : 0 ≤ a1.toInt ∧ a1.toInt ≤ 39) (H : mzH) (hI : gI SX H) (hJ : JX H) : gCall 66 [.ref 24, .int a1] H (gRi (fun v H' => gI SX H' ∧ JX H' ∧ fZ H' 1 1 = fZ H 1 1 ∧ kpX H H')) := by
  obtain ⟨k1_1, ek1_1⟩ : ∃ z, z = fZ H 1 1 := ⟨_, rfl⟩
  have ik1_1 : k1_1.toInt = (fZ H 1 1).toInt := by rw [← ek1_1]
  have bk1_1 : 0 ≤ k1_1.toInt ∧ k1_1.toInt ≤ 900 := by rw [ek1_1]; exact fZ_of hI sx_1 rfl
  have mkfr : kpX H H := kpX_r
  refine gG_call [(0, .ref 24), (1, .int a1)] ⟨rfl, rfl, trivial⟩ ?_
  show gG 4 zB_66 (mzBlk zB_66 0) [(0, .ref 24), (1, .int a1)] [] H 0 0 _
  refine g_aload_n rfl ?_
  refine g_gfr hI sx_24 rfl ?_
  refine g_invvv hI sx_28 rfl rfl rfl rfl (s_83 28 zWo_28 H hI hJ) (fun H369 r370 => ?_)
  obtain ⟨hIH369, hJH369, w371, m372⟩ := r370
  have e373 : k1_1 = fZ H369 1 1 := ek1_1.trans w371.symm
  have m374 : kpX H H369 := kpX_t mkfr m372
  refine g_iconst (by decide) (fun v375 kv375 => ?_)
  refine g_istore_n (l' := [(0, .ref 24), (1, .int a1), (2, .int v375)]) rfl rfl ?_
  refine g_iconst (by decide) (fun v376 kv376 => ?_)
  refine g_istore_n (l' := [(0, .ref 24), (1, .int a1), (2, .int v375), (3, .int v376)]) rfl rfl ?_
  refine g_nop ?_
  have L382 : ∀ (N : Nat) (v377 : Int32) (v378 : Int32) (H379 : mzH), gI SX H379 → JX H379 → k1_1 = fZ H379 1 1 → kpX H H379 → (0 ≤ v377.toInt ∧ v377.toInt ≤ 2147483647) → (0 ≤ v378.toInt ∧ v378.toInt ≤ 60) → (60 - v378.toInt).toNat < N → gG 4 zB_66 (mzBlk zB_66 1) [(0, .ref 24), (1, .int a1), (2, .int v377), (3, .int v378)] [] H379 0 0 (gRi (fun v H' => gI SX H' ∧ JX H' ∧ fZ H' 1 1 = fZ H 1 1 ∧ kpX H H')) := by
    intro N
    induction N with
    | zero => intro v377 v378 H379 hIH379 hJH379 e380 m381 bv377 bv378 hmL382; exact absurd hmL382 (Nat.not_lt_zero _)
    | succ N ihL382 =>
      intro v377 v378 H379 hIH379 hJH379 e380 m381 bv377 bv378 hmL382
      refine g_iload_n rfl ?_
      refine g_aload_n rfl ?_
      refine g_gfr hIH379 sx_24 rfl ?_
      refine g_gfi hIH379 sx_25 rfl (fun v383 ev383 lv383 uv383 => ?_)
      refine g_if2_ge (fun c384 => ?_) (fun c384 => ?_)
      · refine g_aload_n rfl ?_
        refine g_gfr hIH379 sx_24 rfl ?_
        refine g_iload_n rfl ?_
        refine g_invvi hIH379 sx_28 rfl rfl rfl rfl (s_88 28 zWo_28 a1 (by first | with_reducible assumption | omega) H379 hIH379 hJH379) (fun v387 H385 r386 => ?_)
        obtain ⟨rfl, bv387⟩ := r386
        refine g_if_eq (fun c388 => ?_) (fun c388 => ?_)
        · refine g_bipush (by decide) (fun v389 kv389 => ?_)
          refine g_nop ?_
          exact g_iret ⟨_, rfl, hIH379, hJH379, (e380.symm.trans ek1_1), m381⟩
        · refine g_iload_n rfl ?_
          refine g_goto ?_
          exact g_iret ⟨_, rfl, hIH379, hJH379, (e380.symm.trans ek1_1), m381⟩
      · refine g_aload_n rfl ?_
        refine g_iload_n rfl ?_
        refine g_invvi hIH379 sx_24 rfl rfl rfl rfl (s_53 v378 (by first | with_reducible assumption | omega) H379 hIH379 hJH379) (fun v392 H390 r391 => ?_)
        obtain ⟨hIH390, hJH390, w393, m394⟩ := r391
        have e395 : k1_1 = fZ H390 1 1 := e380.trans w393.symm
        have m396 : kpX H H390 := kpX_t m381 m394
        refine g_pop rfl ?_
        refine g_iload_n rfl ?_
        refine g_aload_n rfl ?_
        refine g_gfr hIH390 sx_24 rfl ?_
        refine g_iload_n rfl ?_
        refine g_invvl hIH390 sx_28 rfl rfl rfl rfl (s_104 28 zWo_28 a1 H390 hIH390 hJH390) (fun v399 H397 r398 => ?_)
        obtain rfl := r398
        refine g_invti rfl rfl rfl (s_253 v399 H390 hIH390 hJH390) (fun v402 H400 r401 => ?_)
        obtain rfl := r401
        refine g_max rfl (fun v403 av403 bv403 dv403 => ?_)
        refine g_istore_n (l' := [(0, .ref 24), (1, .int a1), (2, .int v403), (3, .int v378)]) rfl rfl ?_
        refine g_iinc (l' := (fun v404 => [(0, .ref 24), (1, .int a1), (2, .int v403), (3, .int v404)])) rfl rfl (by decide) (by first | with_reducible assumption | omega) (fun _ => rfl) (fun v404 ev404 => ?_)
        refine g_goto ?_
        exact ihL382 v403 v404 H390 hIH390 hJH390 e395 m396 (by have := gz_any v403; omega) (by first | with_reducible assumption | omega) (by first | with_reducible assumption | omega)
  exact L382 _ v375 v376 H369 hIH369 hJH369 e373 m374 (by have := gz_any v375; omega) (by first | with_reducible assumption | omega) (Nat.lt_succ_self _)
set_option maxRecDepth 4000 in
set_option maxHeartbeats 4000000 in
/-- X5.heldSince -/
theorem s_67 (a1 : Int32) (ha1 : 0 ≤ a1.toInt ∧ a1.toInt ≤ 39) (a2 : Int32) (H : mzH) (hI : gI SX H) (hJ : JX H) : gCall 67 [.ref 24, .int a1, .int a2] H (gRi (fun v H' => gI SX H' ∧ JX H' ∧ fZ H' 1 1 = fZ H 1 1 ∧ kpX H H')) := by
  obtain ⟨k1_1, ek1_1⟩ : ∃ z, z = fZ H 1 1 := ⟨_, rfl⟩
  have ik1_1 : k1_1.toInt = (fZ H 1 1).toInt := by rw [← ek1_1]
  have bk1_1 : 0 ≤ k1_1.toInt ∧ k1_1.toInt ≤ 900 := by rw [ek1_1]; exact fZ_of hI sx_1 rfl
  have mkfr : kpX H H := kpX_r
  refine gG_call [(0, .ref 24), (1, .int a1), (2, .int a2)] ⟨rfl, rfl, rfl, trivial⟩ ?_
  show gG 8 zB_67 (mzBlk zB_67 0) [(0, .ref 24), (1, .int a1), (2, .int a2)] [] H 0 0 _
  refine g_aload_n rfl ?_
  refine g_gfr hI sx_24 rfl ?_
  refine g_invvv hI sx_28 rfl rfl rfl rfl (s_83 28 zWo_28 H hI hJ) (fun H761 r762 => ?_)
  obtain ⟨hIH761, hJH761, w763, m764⟩ := r762
  have e765 : k1_1 = fZ H761 1 1 := ek1_1.trans w763.symm
  have m766 : kpX H H761 := kpX_t mkfr m764
  refine g_bipush (by decide) (fun v767 kv767 => ?_)
  refine g_istore_n (l' := [(0, .ref 24), (1, .int a1), (2, .int a2), (3, .int v767)]) rfl rfl ?_
  refine g_iconst (by decide) (fun v768 kv768 => ?_)
  refine g_istore (l' := [(0, .ref 24), (1, .int a1), (2, .int a2), (3, .int v767), (4, .int v768)]) rfl rfl ?_
  refine g_nop ?_
  have L774 : ∀ (N : Nat) (v769 : Int32) (v770 : Int32) (H771 : mzH), gI SX H771 → JX H771 → k1_1 = fZ H771 1 1 → kpX H H771 → (0 ≤ v770.toInt ∧ v770.toInt ≤ 60) → (60 - v770.toInt).toNat < N → gG 8 zB_67 (mzBlk zB_67 1) [(0, .ref 24), (1, .int a1), (2, .int a2), (3, .int v769), (4, .int v770)] [] H771 0 0 (gRi (fun v H' => gI SX H' ∧ JX H' ∧ fZ H' 1 1 = fZ H 1 1 ∧ kpX H H')) := by
    intro N
    induction N with
    | zero => intro v769 v770 H771 hIH771 hJH771 e772 m773 bv770 hmL774; exact absurd hmL774 (Nat.not_lt_zero _)
    | succ N ihL774 =>
      intro v769 v770 H771 hIH771 hJH771 e772 m773 bv770 hmL774
      refine g_iload rfl ?_
      refine g_aload_n rfl ?_
      refine g_gfr hIH771 sx_24 rfl ?_
      refine g_gfi hIH771 sx_25 rfl (fun v775 ev775 lv775 uv775 => ?_)
      refine g_if2_ge (fun c776 => ?_) (fun c776 => ?_)
      · refine g_aload_n rfl ?_
        refine g_gfr hIH771 sx_24 rfl ?_
        refine g_iload_n rfl ?_
        refine g_iconst (by decide) (fun v777 kv777 => ?_)
        refine g_invvi hIH771 sx_28 rfl rfl rfl rfl (s_85 28 zWo_28 a1 (by first | with_reducible assumption | omega) v777 H771 hIH771 hJH771) (fun v780 H778 r779 => ?_)
        obtain ⟨rfl, bv780⟩ := r779
        refine g_if_eq (fun c781 => ?_) (fun c781 => ?_)
        · refine g_iload_n rfl ?_
          refine g_nop ?_
          exact g_iret ⟨_, rfl, hIH771, hJH771, (e772.symm.trans ek1_1), m773⟩
        · refine g_bipush (by decide) (fun v782 kv782 => ?_)
          refine g_goto ?_
          exact g_iret ⟨_, rfl, hIH771, hJH771, (e772.symm.trans ek1_1), m773⟩
      · refine g_aload_n rfl ?_
        refine g_gfr hIH771 sx_24 rfl ?_
        refine g_iload rfl ?_
        refine g_invvi hIH771 sx_25 rfl rfl rfl rfl (s_27 25 zCo_25 v770 (by first | with_reducible assumption | omega) H771 hIH771 hJH771) (fun v785 H783 r784 => ?_)
        obtain rfl := r784
        refine g_iload_n rfl ?_
        refine g_if2_gt (fun c786 => ?_) (fun c786 => ?_)
        · refine g_aload_n rfl ?_
          refine g_gfr hIH771 sx_24 rfl ?_
          refine g_iload_n rfl ?_
          refine g_iconst (by decide) (fun v787 kv787 => ?_)
          refine g_invvi hIH771 sx_28 rfl rfl rfl rfl (s_85 28 zWo_28 a1 (by first | with_reducible assumption | omega) v787 H771 hIH771 hJH771) (fun v790 H788 r789 => ?_)
          obtain ⟨rfl, bv790⟩ := r789
          refine g_if_eq (fun c791 => ?_) (fun c791 => ?_)
          · refine g_iload_n rfl ?_
            refine g_nop ?_
            exact g_iret ⟨_, rfl, hIH771, hJH771, (e772.symm.trans ek1_1), m773⟩
          · refine g_bipush (by decide) (fun v792 kv792 => ?_)
            refine g_goto ?_
            exact g_iret ⟨_, rfl, hIH771, hJH771, (e772.symm.trans ek1_1), m773⟩
        · refine g_aload_n rfl ?_
          refine g_gfr hIH771 sx_24 rfl ?_
          refine g_iload_n rfl ?_
          refine g_invvl hIH771 sx_28 rfl rfl rfl rfl (s_104 28 zWo_28 a1 H771 hIH771 hJH771) (fun v795 H793 r794 => ?_)
          obtain rfl := r794
          refine g_lstore (l' := [(0, .ref 24), (1, .int a1), (2, .int a2), (3, .int v769), (4, .int v770), (5, .long v795)]) rfl rfl ?_
          refine g_aload_n rfl ?_
          refine g_gfr hIH771 sx_24 rfl ?_
          refine g_iload_n rfl ?_
          refine g_invvi hIH771 sx_28 rfl rfl rfl rfl (s_88 28 zWo_28 a1 (by first | with_reducible assumption | omega) H771 hIH771 hJH771) (fun v798 H796 r797 => ?_)
          obtain ⟨rfl, bv798⟩ := r797
          refine g_istore (l' := [(0, .ref 24), (1, .int a1), (2, .int a2), (3, .int v769), (4, .int v770), (5, .long v795), (7, .int v798)]) rfl rfl ?_
          refine g_aload_n rfl ?_
          refine g_iload rfl ?_
          refine g_invvi hIH771 sx_24 rfl rfl rfl rfl (s_53 v770 (by first | with_reducible assumption | omega) H771 hIH771 hJH771) (fun v801 H799 r800 => ?_)
          obtain ⟨hIH799, hJH799, w802, m803⟩ := r800
          have e804 : k1_1 = fZ H799 1 1 := e772.trans w802.symm
          have m805 : kpX H H799 := kpX_t m773 m803
          refine g_pop rfl ?_
          refine g_aload_n rfl ?_
          refine g_gfr hIH799 sx_24 rfl ?_
          refine g_iload_n rfl ?_
          refine g_invvl hIH799 sx_28 rfl rfl rfl rfl (s_104 28 zWo_28 a1 H799 hIH799 hJH799) (fun v808 H806 r807 => ?_)
          obtain rfl := r807
          refine g_lload rfl ?_
          refine g_lcmp (fun v809 _ => ?_)
          refine g_if_ne (fun c810 => ?_) (fun c810 => ?_)
          · refine g_aload_n rfl ?_
            refine g_gfr hIH799 sx_24 rfl ?_
            refine g_iload rfl ?_
            refine g_invvi hIH799 sx_25 rfl rfl rfl rfl (s_27 25 zCo_25 v770 (by first | with_reducible assumption | omega) H799 hIH799 hJH799) (fun v813 H811 r812 => ?_)
            obtain rfl := r812
            refine g_istore_n (l' := [(0, .ref 24), (1, .int a1), (2, .int a2), (3, .int v813), (4, .int v770), (5, .long v795), (7, .int v798)]) rfl rfl ?_
            refine g_nop ?_
            refine g_iinc (l' := (fun v814 => [(0, .ref 24), (1, .int a1), (2, .int a2), (3, .int v813), (4, .int v814), (5, .long v795), (7, .int v798)])) rfl rfl (by decide) (by first | with_reducible assumption | omega) (fun _ => rfl) (fun v814 ev814 => ?_)
            refine g_goto ?_
            refine gG_pick [0, 1, 2, 3, 4] (l' := [(0, .ref 24), (1, .int a1), (2, .int a2), (3, .int v813), (4, .int v814)]) rfl ?_
            exact ihL774 v813 v814 H799 hIH799 hJH799 e804 m805 (by first | with_reducible assumption | omega) (by first | with_reducible assumption | omega)
          · refine g_aload_n rfl ?_
            refine g_gfr hIH799 sx_24 rfl ?_
            refine g_iload_n rfl ?_
            refine g_invvi hIH799 sx_28 rfl rfl rfl rfl (s_88 28 zWo_28 a1 (by first | with_reducible assumption | omega) H799 hIH799 hJH799) (fun v817 H815 r816 => ?_)
            obtain ⟨rfl, bv817⟩ := r816
            refine g_iload rfl ?_
            refine g_if2_eq (fun c818 => ?_) (fun c818 => ?_)
            · refine g_iinc (l' := (fun v819 => [(0, .ref 24), (1, .int a1), (2, .int a2), (3, .int v769), (4, .int v819), (5, .long v795), (7, .int v798)])) rfl rfl (by decide) (by first | with_reducible assumption | omega) (fun _ => rfl) (fun v819 ev819 => ?_)
              refine g_goto ?_
              refine gG_pick [0, 1, 2, 3, 4] (l' := [(0, .ref 24), (1, .int a1), (2, .int a2), (3, .int v769), (4, .int v819)]) rfl ?_
              exact ihL774 v769 v819 H799 hIH799 hJH799 e804 m805 (by first | with_reducible assumption | omega) (by first | with_reducible assumption | omega)
            · refine g_nop ?_
              refine g_aload_n rfl ?_
              refine g_gfr hIH799 sx_24 rfl ?_
              refine g_iload rfl ?_
              refine g_invvi hIH799 sx_25 rfl rfl rfl rfl (s_27 25 zCo_25 v770 (by first | with_reducible assumption | omega) H799 hIH799 hJH799) (fun v822 H820 r821 => ?_)
              obtain rfl := r821
              refine g_istore_n (l' := [(0, .ref 24), (1, .int a1), (2, .int a2), (3, .int v822), (4, .int v770), (5, .long v795), (7, .int v798)]) rfl rfl ?_
              refine g_nop ?_
              refine g_iinc (l' := (fun v823 => [(0, .ref 24), (1, .int a1), (2, .int a2), (3, .int v822), (4, .int v823), (5, .long v795), (7, .int v798)])) rfl rfl (by decide) (by first | with_reducible assumption | omega) (fun _ => rfl) (fun v823 ev823 => ?_)
              refine g_goto ?_
              refine gG_pick [0, 1, 2, 3, 4] (l' := [(0, .ref 24), (1, .int a1), (2, .int a2), (3, .int v822), (4, .int v823)]) rfl ?_
              exact ihL774 v822 v823 H799 hIH799 hJH799 e804 m805 (by first | with_reducible assumption | omega) (by first | with_reducible assumption | omega)
  exact L774 _ v767 v768 H761 hIH761 hJH761 e765 m766 (by first | with_reducible assumption | omega) (Nat.lt_succ_self _)
